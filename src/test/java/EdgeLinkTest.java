/**
 * The boundary cases of a link, promises 12 and 13 and the second of the terms, but for islands:
 * ahead of each test stands the document's sentence that it holds to.
 */
public final class EdgeLinkTest extends Edge {
    public static void main(String[] args) {
        bases();
        nothingAtAll();
        nothingReached();
        greatestYard();
        faultWhats();
        faultsOfEachKind();
        faultOfTheLatestLink();
        noLooseUnits();
        archivesInTurn();
        againAndAgain();
        groupedAgainAndAgain();
        firstMember();
        neededNames();
        twiceOfTheLeastName();
        twiceOnlyWithASecond();
        greatestCommon();
        firstWeak();
        weakWithoutDefinition();
        entryOfNoSection();
        entryWithoutDefinition();
        longestReach();
        reachedEnds();
        keptOfUnitsThatAreNotIn();
        commonThatIsReached();
        firstMissing();
        missingOnlyIfReached();
        emptyTwins();
        allAlike();
        longestUnlikeness();
        asManyRelocations();
        numbersApart();
        placesApart();
        emptyLayout();
        greatestGap();
        kindsInTurn();
        allCommonPlaces();
        wordWraps();
        relativeWraps();
        highHalves();
        lowHalves();
        jumpBits();
        jumpPlaces();
        firstJumpPlace();
        severalAtOnePlace();
        Check.end();
    }

    /** One DATA section of 8 bytes, kept, with an ABSOLUTE symbol 0 and a relocation at 4. */
    private static LinkYard mender(int word, int sort, int number, int addend) {
        LinkYard x = yard(NONE);
        kept(x, DATA, 8, 4);
        x.word(0, 4, word);
        x.relocation(0, 4, sort, x.other(0, ABSOLUTE, number, 0, LOCAL), addend);
        return x;
    }

    private static void mends(int due, int word, int sort, int number, int addend) {
        LinkYard x = mender(word, sort, number, addend);
        Check.is("sort " + sort + " of " + number + " and " + addend, 8, x.link(4096));
        Check.is("sort " + sort + " of " + number + " and " + addend, due, x.at(4100));
        Check.is("beside", 0, x.at(4096));
    }

    private static LinkYard linkedAt8192() {
        LinkYard x = mender(5, WORD, 6, 7);
        x.link(8192);
        return x;
    }

    private static LinkYard faulted() {
        LinkYard x = mender(5, JUMP, 6, 7);
        x.link(8192);
        return x;
    }

    /** Promise 12: refused if base is no multiple of 4096, or not 0 .. 1048576. */
    private static void bases() {
        int[] wrong = {-4096, -1, 1, 4, 2048, 4092, 4095, 4097, 8188, 1048572, 1048575, 1048577,
            1048580, 1052672, LEAST, LEAST + 4096, GREATEST, GREATEST - 4095, -1048576};
        refusesEach("base", WRONG, EdgeLinkTest::linkedAt8192, LinkYard::link, wrong);
        refusesEach("base behind a fault", WRONG, EdgeLinkTest::faulted, LinkYard::link, wrong);
        refusesEach("base of a new object", WRONG, LinkYard::new, LinkYard::link, wrong);
        for (int base : new int[] {0, 4096, 8192, 1044480, 1048576}) {
            LinkYard x = mender(5, WORD, 6, 7);
            Check.is("link at " + base, 8, x.link(base));
            Check.is("address", base, x.address(0));
            Check.is("end", base + 8, x.about(6));
            Check.is("word", 18, x.at(base + 4));
        }
    }

    /** Promise 12: how many bytes there are from BASE to the end of all: none. */
    private static void nothingAtAll() {
        LinkYard x = new LinkYard();
        for (int base : new int[] {0, 1048576}) {
            Check.is("an empty object", 0, x.link(base));
            isAbout("an empty object", x, 0, 0, 0, 0, NONE, 0, base, 1);
            Check.refuses("no word", OUTSIDE, () -> x.at(base));
        }
        x.unit(NONE);
        x.unit(0);
        Check.is("units without sections", 0, x.link(4096));
        isAbout("units without sections", x, 1, 0, 0, 0, NONE, 0, 4096, 1);
    }

    /** Promise 12: how many bytes there are: what isn't reached is not laid. */
    private static void nothingReached() {
        LinkYard x = yard(NONE);
        for (int kind = TEXT; kind <= ZERO; kind++) {
            x.section(0, kind, 8192, 4096);
            x.symbol(kind, 0, kind, GLOBAL);
        }
        x.other(0, SIZED, 8192, 9, COMMON);
        Check.is("bytes", 0, x.link(1048576));
        isAbout("nothing is reached", x, 1, 0, 0, 0, NONE, 0, 1048576, 1);
        Check.is("no address", NONE, x.address(0));
        Check.is("no common place", NONE, x.common(9));
    }

    /** Terms: sizes, alignments and common places as great as they may be, from the last BASE. */
    private static void greatestYard() {
        LinkYard x = yard(NONE);
        for (int s = 0; s < 96; s++) {
            Check.is("section", s, x.section(0, DATA, 4160, 4096));
            x.keep(s, true);
        }
        for (int name = 0; name < 100; name++) {
            x.relocation(95, 4 * name, WORD, x.other(0, SIZED, 8192, name, COMMON), 0);
        }
        int bytes = 95 * 8192 + 4160 + 100 * 8192;
        Check.is("bytes", bytes, x.link(1048576));
        Check.is("end", 1048576 + bytes, x.about(6));
        Check.is("the last section", 1048576 + 95 * 8192, x.address(95));
        Check.is("the last common place", 1048576 + bytes - 8192, x.common(99));
        Check.is("its word", 1048576 + bytes - 8192, x.at(1048576 + 95 * 8192 + 396));
        Check.is("the last address", 0, x.at(1048576 + bytes - 4));
        Check.refuses("the end", OUTSIDE, () -> x.at(1048576 + bytes));
    }

    /** Promise 13: IllegalArgumentException for another what. */
    private static void faultWhats() {
        int[] wrong = {-1, 3, 4, LEAST, GREATEST};
        refusesEach("fault of a new object", WRONG, LinkYard::new, LinkYard::fault, wrong);
        refusesEach("fault of a link", WRONG, EdgeLinkTest::linkedAt8192, LinkYard::fault, wrong);
        refusesEach("fault", WRONG, EdgeLinkTest::faulted, LinkYard::fault, wrong);
    }

    /** Promise 13: its name (1, 2; else NONE), its relocation (2 but of the entry, 3, 5). */
    private static void faultsOfEachKind() {
        LinkYard x = yard(NONE, NONE);
        x.other(0, ABSOLUTE, 0, 0, GLOBAL);
        Check.is("none", 0, x.link(0));
        isFault("none", x, 0, NONE, NONE);
        x.other(1, ABSOLUTE, 0, 0, GLOBAL);
        faults("TWICE", x, TWICE, 0, NONE);
        LinkYard y = yard(NONE);
        y.entry(0);
        faults("MISSING of the entry", y, MISSING, 0, NONE);
        kept(y, DATA, 4, 4);
        y.relocation(0, 0, WORD, y.other(0, UNDEFINED, 0, 0, GLOBAL), 0);
        faults("MISSING of the entry, ahead of a relocation", y, MISSING, 0, NONE);
        y.entry(NONE);
        faults("MISSING of a relocation", y, MISSING, 0, 0);
        faults("FAR", mender(0, NEAR, 1, 0), FAR, NONE, 0);
        faults("PLACE", mender(0, JUMP, 1, 0), PLACE, NONE, 0);
        LinkYard z = yard(NONE);
        kept(z, TEXT, 4, 4);
        z.other(0, ABSOLUTE, 1 << 30, 0, LOCAL);
        for (int i = 0; i < 33; i++) {
            z.relocation(0, 0, NEAR, 0, i);
        }
        faults("MUCH", z, MUCH, NONE, NONE);
    }

    /** Promise 13: Of the latest link(): 0, NONE, NONE if there was none since .. was told. */
    private static void faultOfTheLatestLink() {
        LinkYard x = faulted();
        isFault("the fault", x, PLACE, NONE, 0);
        Check.refuses("a base that is refused", WRONG, () -> x.link(1));
        isFault("the fault stays", x, PLACE, NONE, 0);
        Check.is("linked again", NONE, x.link(0));
        isFault("the fault again", x, PLACE, NONE, 0);
        x.word(0, 0, 0);
        isFault("told", x, 0, NONE, NONE);
        x.entry(7);
        x.link(0);
        isFault("another fault", x, MISSING, 7, NONE);
        x.entry(NONE);
        x.keep(0, false);
        Check.is("without a fault", 0, x.link(0));
        isFault("without a fault", x, 0, NONE, NONE);
        LinkYard y = mender(0, NEAR, 1048584, 0);
        faults("far from 0", y, FAR, NONE, 0);
        Check.is("linked elsewhere, with nothing told between", 8, y.link(1048576));
        isFault("without a fault now", y, 0, NONE, NONE);
        faults("far from 0 again", y, FAR, NONE, 0);
    }

    /** Terms: IN are the loose units: there may be none. */
    private static void noLooseUnits() {
        LinkYard x = yard(0, 1, 2, 3);
        for (int unit = 0; unit < 4; unit++) {
            x.other(unit, ABSOLUTE, unit, unit, GLOBAL);
        }
        x.link(0);
        Check.is("none is in", 0, x.about(0));
        for (int unit = 0; unit < 4; unit++) {
            x.entry(unit);
            x.link(0);
            Check.is("one is in", 1, x.about(0));
            Check.is("the one that has the entry", true, x.isIn(unit));
        }
    }

    /** A loose unit 0 that needs name 1; unit n has name n and needs name n + 1. */
    private static LinkYard chain(int... archives) {
        LinkYard x = yard(NONE);
        x.other(0, UNDEFINED, 0, 1, GLOBAL);
        for (int unit = 1; unit <= archives.length; unit++) {
            x.unit(archives[unit - 1]);
            x.other(unit, ABSOLUTE, 0, unit, GLOBAL);
            x.other(unit, UNDEFINED, 0, unit + 1, GLOBAL);
        }
        return x;
    }

    /** Terms: for archive 0, 1, 2, 3 in turn. */
    private static void archivesInTurn() {
        LinkYard x = chain(0, 0, 1, 2, 2, 3, 3);
        x.link(0);
        Check.is("all come in", 8, x.about(0));
        LinkYard y = chain(0, 1, 2, 3, 0);
        y.link(0);
        Check.is("archive 0 is over by then", 5, y.about(0));
        Check.is("its member", false, y.isIn(5));
    }

    /** Terms: comes in, again and again, until there is none: all 23 members of one archive. */
    private static void againAndAgain() {
        for (int archive = 0; archive < 4; archive++) {
            LinkYard x = new LinkYard();
            for (int unit = 0; unit < 24; unit++) {
                x.unit(unit == 23 ? NONE : archive);
                x.other(unit, ABSOLUTE, 0, unit, GLOBAL);
                x.other(unit, UNDEFINED, 0, unit == 0 ? 199 : unit - 1, GLOBAL);
            }
            x.link(0);
            Check.is("all come in, the last one first", 24, x.about(0));
            Check.is("the least", true, x.isIn(0));
        }
    }

    /** Terms: With GROUPED the four archives are gone through again until nothing comes in. */
    private static void groupedAgainAndAgain() {
        int[] archives = new int[23];
        for (int i = 0; i < 23; i++) {
            archives[i] = 3 - i % 4;
        }
        LinkYard x = chain(archives);
        x.link(0);
        Check.is("gone through once", 2, x.about(0));
        x.fold(false, true);
        x.link(0);
        Check.is("gone through until nothing comes in", 24, x.about(0));
        Check.is("the last one", true, x.isIn(23));
        LinkYard empty = new LinkYard();
        empty.fold(false, true);
        Check.is("nothing can come in", 0, empty.link(0));
    }

    /** Terms: the first member that isn't in and has a GLOBAL or COMMON symbol. */
    private static void firstMember() {
        LinkYard x = yard(NONE, 1, 1, 1, 1, 0);
        x.other(0, UNDEFINED, 0, 0, GLOBAL);
        x.other(4, ABSOLUTE, 0, 0, GLOBAL);
        x.other(3, SIZED, 4, 0, COMMON);
        x.other(2, ABSOLUTE, 0, 0, WEAK);
        x.other(1, UNDEFINED, 0, 0, GLOBAL);
        x.other(5, ABSOLUTE, 0, 0, LOCAL);
        x.link(0);
        Check.is("how many", 2, x.about(0));
        Check.is("the one with the COMMON symbol", true, x.isIn(3));
    }

    /** Terms: NEEDED is .. that no unit that is in has as GLOBAL, WEAK or COMMON. */
    private static void neededNames() {
        for (int form = 0; form < 6; form++) {
            LinkYard x = yard(NONE, NONE, 2);
            x.other(0, UNDEFINED, 0, 199, GLOBAL);
            x.other(2, ABSOLUTE, 0, 199, GLOBAL);
            switch (form) {
                case 0: x.other(1, ABSOLUTE, 0, 199, GLOBAL); break;
                case 1: x.other(1, ABSOLUTE, 0, 199, WEAK); break;
                case 2: x.other(1, SIZED, 4, 199, COMMON); break;
                case 3: x.other(1, UNDEFINED, 0, 199, GLOBAL); break;
                case 4: x.other(1, UNDEFINED, 0, 199, WEAK); break;
                default: x.other(1, ABSOLUTE, 0, 199, LOCAL); break;
            }
            x.link(0);
            Check.is("needed " + form, form >= 3, x.isIn(2));
        }
        LinkYard x = yard(NONE, 2);
        x.other(0, UNDEFINED, 0, 0, WEAK);
        x.other(1, ABSOLUTE, 0, 0, GLOBAL);
        x.link(0);
        Check.is("WEAK ones need nothing", false, x.isIn(1));
        x.entry(0);
        x.link(0);
        Check.is("the entry does", true, x.isIn(1));
    }

    /** Terms: fault 1 TWICE, of the least name that has one. */
    private static void twiceOfTheLeastName() {
        LinkYard x = yard(NONE, NONE, NONE);
        x.other(0, ABSOLUTE, 0, 199, GLOBAL);
        x.other(1, ABSOLUTE, 0, 199, GLOBAL);
        faults("the greatest name", x, TWICE, 199, NONE);
        x.other(1, ABSOLUTE, 0, 100, GLOBAL);
        x.other(2, ABSOLUTE, 0, 100, GLOBAL);
        x.other(2, ABSOLUTE, 0, 199, GLOBAL);
        faults("a lesser one", x, TWICE, 100, NONE);
        x.other(2, ABSOLUTE, 0, 0, GLOBAL);
        faults("the least name has but one", x, TWICE, 100, NONE);
        x.other(0, ABSOLUTE, 0, 0, GLOBAL);
        faults("the least name", x, TWICE, 0, NONE);
    }

    /** Terms: the GLOBAL one (a second one: fault 1): no UNDEFINED, WEAK, COMMON or LOCAL one. */
    private static void twiceOnlyWithASecond() {
        LinkYard x = yard(NONE, NONE, NONE, NONE, 0);
        x.other(0, ABSOLUTE, 7, 0, GLOBAL);
        x.other(0, ABSOLUTE, 1, 0, LOCAL);
        x.other(1, ABSOLUTE, 2, 0, WEAK);
        x.other(2, SIZED, 4, 0, COMMON);
        x.other(3, UNDEFINED, 3, 0, GLOBAL);
        x.other(4, ABSOLUTE, 4, 0, GLOBAL);
        Check.is("a second one that isn't in", 0, x.link(0));
        Check.is("the WEAK one means it", 7, x.means(2, 2));
        Check.is("the COMMON one too", 2, x.means(3, 0));
    }

    /** Terms: a common place of the greatest size that one has. */
    private static void greatestCommon() {
        for (int greatest = 0; greatest < 3; greatest++) {
            LinkYard x = yard(NONE, NONE, NONE, 0);
            kept(x, DATA, 4, 4);
            for (int unit = 0; unit < 3; unit++) {
                x.other(unit, SIZED, unit == greatest ? 8192 : 4, 0, COMMON);
            }
            x.other(3, SIZED, 8192, 1, COMMON);
            x.relocation(0, 0, WORD, 0, 0);
            Check.is("the greatest is of unit " + greatest, 8196, x.link(0));
        }
    }

    /** Terms: by units and then symbols .. else the first WEAK one. */
    private static void firstWeak() {
        LinkYard x = yard(0, NONE, NONE);
        x.other(2, ABSOLUTE, 20, 199, WEAK);
        x.other(1, ABSOLUTE, 10, 199, WEAK);
        x.other(0, ABSOLUTE, 30, 199, WEAK);
        x.other(1, ABSOLUTE, 40, 199, LOCAL);
        x.link(0);
        Check.is("of the first unit that is in", 10, x.means(0, 2));
        Check.is("LOCAL means itself", 40, x.means(3, 2));
    }

    /** Terms: an UNDEFINED WEAK one without definition: the number 0. */
    private static void weakWithoutDefinition() {
        LinkYard x = yard(NONE);
        kept(x, TEXT, 8, 4);
        x.relocation(0, 0, WORD, x.other(0, UNDEFINED, 5, 0, WEAK), -1);
        x.relocation(0, 4, NEAR, 0, 8);
        Check.is("bytes", 8, x.link(0));
        Check.is("a number", 2, x.means(0, 0));
        Check.is("of no section", NONE, x.means(0, 1));
        Check.is("0", 0, x.means(0, 2));
        Check.is("word", -1, x.at(0));
    }

    /** Terms: the section of the entry's definition (.. nothing if it is no section's). */
    private static void entryOfNoSection() {
        LinkYard x = yard(NONE);
        x.section(0, TEXT, 8, 4);
        x.symbol(0, 0, 0, LOCAL);
        x.other(0, ABSOLUTE, 0, 0, GLOBAL);
        x.other(0, SIZED, 4, 199, COMMON);
        for (int name : new int[] {0, 199}) {
            x.entry(name);
            Check.is("bytes", 0, x.link(4096));
            Check.is("nothing is reached", 0, x.about(1));
            Check.is("no common place either", NONE, x.common(name));
        }
    }

    /** Terms: fault 2 MISSING if there is an entry, and it has none. */
    private static void entryWithoutDefinition() {
        LinkYard x = yard(NONE, 0);
        kept(x, TEXT, 8, 4);
        x.symbol(0, 0, 0, LOCAL);
        x.other(0, UNDEFINED, 0, 1, GLOBAL);
        x.other(0, UNDEFINED, 0, 2, WEAK);
        x.other(1, ABSOLUTE, 0, 3, WEAK);
        for (int name : new int[] {0, 1, 2, 3, 4, 199}) {
            x.entry(name);
            faults("entry " + name, x, MISSING, name, NONE);
        }
        x.entry(NONE);
        Check.is("no entry", 8, x.link(0));
    }

    /** 96 sections, each of which means the next lower one. */
    private static LinkYard longChain() {
        LinkYard x = yard(NONE);
        for (int s = 0; s < 96; s++) {
            x.section(0, TEXT, 4, 4);
            x.symbol(s, 0, s, s == 95 ? GLOBAL : LOCAL);
            if (s > 0) {
                x.relocation(s, 0, WORD, s - 1, 0);
            }
        }
        return x;
    }

    /** Terms: and the sections in which the symbols' definitions .. stand: all 96 in a row. */
    private static void longestReach() {
        LinkYard x = longChain();
        x.entry(95);
        Check.is("all are reached", 4 * 96, x.link(0));
        Check.is("all are reached", 96, x.about(1));
        Check.is("the last that is reached", 0, x.address(0));
        x.entry(NONE);
        x.keep(47, true);
        Check.is("half of them", 4 * 48, x.link(0));
        Check.is("not the one above", NONE, x.address(48));
    }

    /** Terms: stands at a place of a section (any, 0 .. the section's size): its end too. */
    private static void reachedEnds() {
        LinkYard x = yard(NONE);
        kept(x, DATA, 8, 4);
        x.section(0, ZERO, 8192, 4);
        x.section(0, TEXT, 0, 4);
        x.relocation(0, 0, WORD, x.symbol(1, 8192, 0, LOCAL), 0);
        x.relocation(0, 4, WORD, x.symbol(2, 0, 0, LOCAL), 0);
        Check.is("bytes", 8200, x.link(0));
        Check.is("reached", 3, x.about(1));
        Check.is("the end of the one", 8200, x.at(0));
        Check.is("the empty one", 0, x.at(4));
    }

    /** Terms: the sections that were told to be KEPT, of units that are in. */
    private static void keptOfUnitsThatAreNotIn() {
        LinkYard x = yard(0, 3);
        for (int unit = 0; unit < 2; unit++) {
            x.section(unit, TEXT, 4, 4);
            x.keep(unit, true);
            x.other(unit, ABSOLUTE, 0, unit, GLOBAL);
        }
        Check.is("none is in", 0, x.link(0));
        x.entry(1);
        Check.is("one is in", 4, x.link(0));
        Check.is("not this one", NONE, x.address(0));
    }

    /** Terms: A common place is reached if a relocation of a reached section means it. */
    private static void commonThatIsReached() {
        LinkYard x = yard(NONE);
        x.section(0, DATA, 4, 4);
        kept(x, DATA, 4, 4);
        x.other(0, SIZED, 4, 0, COMMON);
        x.relocation(0, 0, WORD, 0, 0);
        Check.is("of a section that isn't reached", 4, x.link(0));
        Check.is("no address", NONE, x.common(0));
        x.relocation(1, 0, WORD, 0, 0);
        Check.is("of one that is", 8, x.link(0));
        Check.is("address", 4, x.common(0));
    }

    /** Terms: Fault 2 MISSING: the first relocation, by sections and then relocations. */
    private static void firstMissing() {
        LinkYard x = yard(NONE);
        kept(x, DATA, 8, 4);
        kept(x, TEXT, 8, 4);
        x.other(0, UNDEFINED, 0, 199, GLOBAL);
        x.other(0, UNDEFINED, 0, 0, GLOBAL);
        x.relocation(1, 0, WORD, 1, 0);
        faults("of the second section", x, MISSING, 0, 0);
        x.relocation(0, 4, NEAR, 0, 0);
        x.relocation(0, 0, WORD, 1, 0);
        faults("of the first section, the first told", x, MISSING, 199, 1);
    }

    /** Terms: .. of a reached section whose symbol is UNDEFINED, not WEAK, without definition. */
    private static void missingOnlyIfReached() {
        LinkYard x = yard(NONE, NONE);
        x.section(0, DATA, 4, 4);
        x.relocation(0, 0, WORD, x.other(0, UNDEFINED, 9, 0, GLOBAL), 0);
        x.other(0, UNDEFINED, 9, 1, GLOBAL);
        Check.is("of a section that isn't reached", 0, x.link(0));
        Check.is("means nothing", 0, x.means(0, 0));
        x.keep(0, true);
        faults("of one that is", x, MISSING, 0, 0);
        x.other(1, ABSOLUTE, 8, 0, WEAK);
        Check.is("with a WEAK definition", 4, x.link(0));
        Check.is("it means that", 8, x.at(0));
    }

    /** Two TEXT sections without bytes that a DATA section reaches. */
    private static LinkYard emptyPair(int alignment) {
        LinkYard x = yard(NONE);
        x.section(0, TEXT, 0, 4);
        x.section(0, TEXT, 0, alignment);
        kept(x, DATA, 8, 4);
        x.relocation(2, 0, WORD, x.symbol(0, 0, 0, LOCAL), 0);
        x.relocation(2, 4, WORD, x.symbol(1, 0, 0, LOCAL), 0);
        x.fold(true, false);
        return x;
    }

    /** Terms: LIKE each other if they have the same size, alignment and words: 0, and none. */
    private static void emptyTwins() {
        LinkYard x = emptyPair(4);
        Check.is("bytes", 8, x.link(0));
        Check.is("folded", 1, x.about(2));
        Check.is("like", 0, x.like(1));
        LinkYard y = emptyPair(8);
        y.link(0);
        Check.is("another alignment", 0, y.about(2));
    }

    /** TEXT sections 0 .. 94, each reached by DATA section 95 with a WORD of its own. */
    private static LinkYard manyTexts() {
        LinkYard x = yard(NONE);
        for (int s = 0; s < 95; s++) {
            x.section(0, TEXT, 4, 4);
            x.symbol(s, 0, s, LOCAL);
        }
        kept(x, DATA, 380, 4);
        for (int s = 0; s < 95; s++) {
            x.relocation(95, 4 * s, WORD, s, 0);
        }
        x.fold(true, false);
        return x;
    }

    /** Terms: Of those that are like each other the first one stays: of 95. */
    private static void allAlike() {
        LinkYard x = manyTexts();
        Check.is("bytes", 4 + 380, x.link(4096));
        isAbout("all but one are folded", x, 1, 96, 94);
        Check.is("the last one", 0, x.like(94));
        Check.is("its address", 4096, x.address(94));
        Check.is("its word", 4096, x.at(4100 + 376));
        x.keep(0, true);
        Check.is("the first one is kept", 8 + 380, x.link(4096));
        Check.is("the last one", 1, x.like(94));
    }

    /** Terms: two are unlike only if they have to be: here for what stands 94 sections on. */
    private static void longestUnlikeness() {
        LinkYard x = manyTexts();
        for (int s = 0; s < 95; s++) {
            x.relocation(s, 0, NEAR, s < 94 ? s + 1 : 94, 0);
        }
        x.link(0);
        Check.is("all are alike", 94, x.about(2));
        x.word(94, 0, 1);
        x.link(0);
        Check.is("none are alike", 0, x.about(2));
        Check.is("not even these", 1, x.like(1));
    }

    /** Two TEXT sections of 4 bytes that a DATA section reaches; symbol s begins section s. */
    private static LinkYard pair() {
        LinkYard x = yard(NONE);
        for (int s = 0; s < 2; s++) {
            x.section(0, TEXT, 4, 4);
            x.symbol(s, 0, 0, LOCAL);
        }
        kept(x, DATA, 8, 4);
        for (int s = 0; s < 2; s++) {
            x.relocation(2, 4 * s, WORD, s, 0);
        }
        x.fold(true, false);
        return x;
    }

    /** Terms: and as many relocations: none, or one more than the other. */
    private static void asManyRelocations() {
        LinkYard x = pair();
        int number = x.other(0, ABSOLUTE, 0, 1, LOCAL);
        for (int count = 0; count < 5; count++) {
            x.link(0);
            Check.is(count + " each", 0, x.like(1));
            x.relocation(count % 2, 0, WORD, number, 0);
            x.link(0);
            Check.is("one more", 1, x.like(1));
            x.relocation(1 - count % 2, 0, WORD, number, 0);
        }
    }

    /** Terms: of the same .. addend, and of symbols that mean the same number: not their sum. */
    private static void numbersApart() {
        int[][] pairs = {{1, 0, 0, 1, 1}, {LEAST, GREATEST, 0, 1, 1}, {LEAST, LEAST, 0, 0, 0},
            {GREATEST, GREATEST, -1, -1, 0}};
        for (int[] p : pairs) {
            LinkYard x = pair();
            for (int s = 0; s < 2; s++) {
                x.relocation(s, 0, WORD, x.other(0, ABSOLUTE, p[s], 1, LOCAL), p[2 + s]);
            }
            x.link(0);
            Check.is("numbers " + p[0] + " and " + p[1], p[4], x.like(1));
        }
    }

    /** Terms: or places of the same number in one section or in two that are LIKE each other. */
    private static void placesApart() {
        for (int first = 0; first <= 4; first++) {
            for (int second = 0; second <= 4; second++) {
                LinkYard x = pair();
                x.relocation(0, 0, WORD, x.symbol(0, first, 1, LOCAL), 0);
                x.relocation(1, 0, WORD, x.symbol(1, second, 2, LOCAL), 0);
                x.link(0);
                Check.is("in two", first == second ? 0 : 1, x.like(1));
                LinkYard y = pair();
                y.relocation(0, 0, WORD, y.symbol(2, 2 * first, 1, LOCAL), 0);
                y.relocation(1, 0, WORD, y.symbol(2, 2 * second, 2, LOCAL), 0);
                y.link(0);
                Check.is("in one", first == second ? 0 : 1, y.like(1));
            }
        }
        LinkYard x = pair();
        x.relocation(0, 0, WORD, x.symbol(0, 0, 1, LOCAL), 0);
        x.relocation(1, 0, WORD, x.other(0, ABSOLUTE, 0, 2, LOCAL), 0);
        x.link(0);
        Check.is("a place and a number, both 0", 1, x.like(1));
        LinkYard y = pair();
        y.relocation(0, 0, WORD, y.other(0, SIZED, 4, 1, COMMON), 0);
        y.relocation(1, 0, WORD, y.other(0, SIZED, 4, 2, COMMON), 0);
        y.link(0);
        Check.is("two common places", 1, y.like(1));
    }

    /** Terms: each at the least address that is a multiple of its alignment: empty ones too. */
    private static void emptyLayout() {
        LinkYard x = yard(NONE);
        for (int kind = TEXT; kind <= ZERO; kind++) {
            kept(x, kind, 0, 4096);
        }
        Check.is("empty ones alone", 0, x.link(1048576));
        for (int s = 0; s < 3; s++) {
            Check.is("address " + s, 1048576, x.address(s));
        }
        Check.is("reached", 3, x.about(1));
        Check.refuses("no word", OUTSIDE, () -> x.at(1048576));
        kept(x, TEXT, 4, 4);
        Check.is("empty ones behind others", 4096, x.link(0));
        int[] due = {0, 4096, 4096, 0};
        for (int s = 0; s < due.length; s++) {
            Check.is("address " + s, due[s], x.address(s));
        }
        Check.is("the gap's last word", 0, x.at(4092));
        Check.refuses("the end", OUTSIDE, () -> x.at(4096));
    }

    /** Terms: .. and not below the end of the one before: just behind it, or 4092 bytes on. */
    private static void greatestGap() {
        LinkYard x = yard(NONE);
        kept(x, DATA, 4, 4096);
        kept(x, DATA, 4092, 4);
        kept(x, DATA, 4, 4096);
        kept(x, DATA, 4, 4096);
        kept(x, DATA, 4, 4);
        Check.is("bytes", 8200, x.link(4096));
        int[] due = {4096, 4100, 8192, 12288, 12292};
        for (int s = 0; s < due.length; s++) {
            Check.is("address " + s, due[s], x.address(s));
        }
    }

    /** Terms: TEXT sections by their numbers, ISLANDS, DATA, ZERO, common places by names. */
    private static void kindsInTurn() {
        LinkYard x = yard(NONE);
        int[] kinds = {ZERO, DATA, TEXT, ZERO, DATA, TEXT};
        for (int kind : kinds) {
            kept(x, kind, 4, 4);
        }
        x.relocation(5, 0, NEAR, x.other(0, ABSOLUTE, 1 << 30, 9, LOCAL), 0);
        x.relocation(4, 0, WORD, x.other(0, SIZED, 4, 199, COMMON), 0);
        x.relocation(4, 0, WORD, x.other(0, SIZED, 8, 0, COMMON), 0);
        Check.is("bytes", 44, x.link(0));
        int[] due = {24, 16, 0, 28, 20, 4};
        for (int s = 0; s < due.length; s++) {
            Check.is("address " + s, due[s], x.address(s));
        }
        Check.is("the island", 8, x.about(4));
        Check.is("the least name", 32, x.common(0));
        Check.is("the greatest name", 40, x.common(199));
    }

    /** Terms: reached common places by their names: all 200. */
    private static void allCommonPlaces() {
        LinkYard x = yard(NONE);
        kept(x, DATA, 800, 4);
        for (int i = 0; i < 200; i++) {
            int name = 199 - i;
            x.relocation(0, 4 * name, WORD, x.other(0, SIZED, 4 + name % 2 * 4, name, COMMON), 0);
        }
        Check.is("bytes", 800 + 1200, x.link(0));
        for (int name : new int[] {0, 1, 2, 99, 198, 199}) {
            int due = 800 + name / 2 * 12 + name % 2 * 4;
            Check.is("address of " + name, due, x.common(name));
            Check.is("its word", due, x.at(4 * name));
        }
    }

    /** Terms: Numbers are ints that wrap. WORD: W + S + A. */
    private static void wordWraps() {
        mends(6, 1, WORD, 2, 3);
        mends(LEAST, GREATEST, WORD, 1, 0);
        mends(LEAST, 0, WORD, GREATEST, 1);
        mends(LEAST, 1, WORD, 0, GREATEST);
        mends(GREATEST, LEAST, WORD, 0, -1);
        mends(0, LEAST, WORD, LEAST, 0);
        mends(GREATEST - 2, GREATEST, WORD, GREATEST, GREATEST);
    }

    /** Terms: RELATIVE: W + S + A - P, which wraps; P is 4100 here. */
    private static void relativeWraps() {
        mends(0, 0, RELATIVE, 4100, 0);
        mends(-1, 0, RELATIVE, 4100, -1);
        mends(LEAST, 0, RELATIVE, LEAST, 4100);
        mends(GREATEST, 0, RELATIVE, LEAST, 4099);
        mends(GREATEST - 4100, GREATEST, RELATIVE, 0, 0);
    }

    /** Terms: HIGH: W's lower half is the upper one of S + A + 32768. */
    private static void highHalves() {
        mends(0xABCD0000, 0xABCD1234, HIGH, 0, 0);
        mends(0xABCD0000, 0xABCD1234, HIGH, 32767, 0);
        mends(0xABCD0001, 0xABCD1234, HIGH, 32767, 1);
        mends(0xABCD0000, 0xABCD1234, HIGH, -32768, 0);
        mends(0xABCDFFFF, 0xABCD1234, HIGH, -32768, -1);
        mends(0xABCD8000, 0xABCD1234, HIGH, GREATEST, 0);
        mends(0xABCD7FFF, 0xABCD1234, HIGH, GREATEST, -32768);
        mends(0xABCD8000, 0xABCD1234, HIGH, LEAST, 0);
        mends(0xABCD8000, 0xABCD1234, HIGH, GREATEST, 1);
    }

    /** Terms: LOW: W's lower half is that of S + A. */
    private static void lowHalves() {
        mends(0xABCD0000, 0xABCD1234, LOW, 0, 0);
        mends(0xABCD7FFF, 0xABCD1234, LOW, 32767, 0);
        mends(0xABCD8000, 0xABCD1234, LOW, 32767, 1);
        mends(0xABCDFFFF, 0xABCD1234, LOW, 0x12340000, 0xFFFF);
        mends(0x0000FFFF, 0, LOW, -1, 0);
        mends(0x00000000, 0, LOW, GREATEST, 1);
    }

    /** Terms: JUMP: W's lowest 26 bits are those of (S + A) / 4, shifted without a sign. */
    private static void jumpBits() {
        mends(0xFC000000, -1, JUMP, 0, 0);
        mends(0xFC000001, -1, JUMP, 4, 0);
        mends(0x03FFFFFF, 0, JUMP, -4, 0);
        mends(0x03FFFFFF, 0, JUMP, 0x0FFFFFFC, 0);
        mends(0x00000000, 0, JUMP, 0x10000000, 0);
        mends(0x00000000, 0, JUMP, LEAST, 0);
        mends(0x00000000, 0, JUMP, GREATEST, 1);
        mends(0x03FFFFFF, 0, JUMP, LEAST, -4);
    }

    /** Terms: fault 5 PLACE .. S + A is no multiple of 4. */
    private static void jumpPlaces() {
        for (int number : new int[] {1, 2, 3, -1, -2, -3, GREATEST, LEAST + 1, LEAST + 2}) {
            faults("JUMP to " + number, mender(0, JUMP, number, 0), PLACE, NONE, 0);
            Check.is("with an addend", 8, mender(0, JUMP, number, -number).link(0));
            Check.is("with an addend", 8, mender(0, JUMP, number, 4 - (number & 3)).link(0));
            faults("JUMP by " + number, mender(0, JUMP, 4096, number), PLACE, NONE, 0);
        }
    }

    /** Terms: .. the first one of these by sections and then relocations. */
    private static void firstJumpPlace() {
        LinkYard x = yard(NONE);
        x.section(0, TEXT, 8, 4);
        kept(x, DATA, 8, 4);
        kept(x, TEXT, 8, 4);
        x.other(0, ABSOLUTE, 2, 0, LOCAL);
        x.relocation(2, 0, JUMP, 0, 0);
        x.relocation(0, 0, JUMP, 0, 0);
        faults("not of the section that isn't reached", x, PLACE, NONE, 0);
        x.relocation(1, 0, JUMP, 0, 2);
        x.relocation(1, 4, JUMP, 0, 1);
        x.relocation(1, 0, JUMP, 0, 0);
        faults("of the section before", x, PLACE, NONE, 3);
    }

    /** Terms: Several may stand at one place: they are done in order. */
    private static void severalAtOnePlace() {
        LinkYard x = mender(GREATEST, WORD, 1, 0);
        x.relocation(0, 4, HIGH, 0, 0x7FFE);
        x.relocation(0, 4, WORD, 0, -2);
        x.relocation(0, 4, LOW, 0, 0x4321);
        x.link(0);
        // LEAST, then its lower half 0, then one less, then the lower half 0x4322.
        Check.is("in order", 0x7FFF4322, x.at(4));
    }
}
