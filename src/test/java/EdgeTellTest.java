/**
 * The boundary cases of what is told, promises 1 to 11 and the first of the terms: ahead of each
 * test stands the document's sentence that it holds to.
 */
public final class EdgeTellTest extends Edge {
    private static final int[] NO_PLACES_OF_8 =
        {-1, -4, 1, 2, 3, 5, 6, 7, 8, 9, 12, 8192, LEAST, GREATEST, GREATEST - 3};
    private static final int[] NO_NAMES = {-1, -2, 200, 201, LEAST, GREATEST};

    public static void main(String[] args) {
        newObject();
        newObjectIsNotFolded();
        newObjectIsNotGrouped();
        unitArchives();
        unitsAreFull();
        sectionUnits();
        sectionKinds();
        sectionSizes();
        sectionAlignments();
        sectionsAreFull();
        bytesAreFull();
        bytesOfWhatIsRefused();
        wordSections();
        wordsOfZeroOnes();
        wordPlaces();
        wordsOfEmptyOnes();
        wordsAtFirst();
        wordValues();
        symbolSections();
        symbolPlaces();
        symbolsOfEmptyOnes();
        symbolNames();
        symbolBindings();
        namesThatAUnitHas();
        symbolsAreFull();
        otherUnits();
        otherSorts();
        otherBindings();
        otherNames();
        otherSizes();
        otherValues();
        relocationSections();
        relocationsOfZeroOnes();
        relocationPlaces();
        relocationSorts();
        relocationSymbols();
        relocationAddends();
        relocationsAreFull();
        entryNames();
        keptSections();
        keptAgain();
        foldedAgain();
        clearedWhenEmpty();
        clearedWhenFull();
        clearedWithAFault();
        clearedOfAllThatWasTold();
        fullBehindWrong();
        toldTakesTheLinkAway();
        Check.end();
    }

    /** Linked, with sections of each kind, one of them empty, and symbols of two units. */
    private static LinkYard small() {
        LinkYard x = yard(NONE, NONE);
        x.section(0, TEXT, 8, 4);
        x.section(0, ZERO, 8, 4);
        x.section(0, DATA, 0, 4);
        x.symbol(0, 0, 1, GLOBAL);
        x.other(1, ABSOLUTE, 5, 2, WEAK);
        x.word(0, 0, 77);
        x.keep(0, true);
        x.link(8192);
        return x;
    }

    /** Promise 1: No units; no entry; nothing linked. */
    private static void newObject() {
        LinkYard x = new LinkYard();
        isFault("new", x, 0, NONE, NONE);
        Check.refuses("isIn", UNLINKED, () -> x.isIn(0));
        Check.refuses("address", UNLINKED, () -> x.address(0));
        Check.refuses("like", UNLINKED, () -> x.like(0));
        Check.refuses("means", UNLINKED, () -> x.means(0, 0));
        Check.refuses("common", UNLINKED, () -> x.common(0));
        Check.refuses("at", UNLINKED, () -> x.at(0));
        Check.refuses("about", UNLINKED, () -> x.about(0));
        Check.refuses("a section of no unit", WRONG, () -> x.section(0, TEXT, 4, 4));
        Check.refuses("a symbol of no unit", WRONG, () -> x.other(0, ABSOLUTE, 0, 0, GLOBAL));
        Check.is("no entry: no fault", 0, x.link(4096));
        isAbout("empty", x, 0, 0, 0, 0, NONE, 0, 4096, 1);
    }

    /** Promise 1: not folded. */
    private static void newObjectIsNotFolded() {
        LinkYard x = twins(new LinkYard());
        Check.is("bytes", 16, x.link(0));
        Check.is("none is folded", 0, x.about(2));
    }

    /** Two TEXT sections that are like each other, reached by a DATA one. */
    private static LinkYard twins(LinkYard x) {
        x.unit(NONE);
        x.section(0, TEXT, 4, 4);
        x.section(0, TEXT, 4, 4);
        kept(x, DATA, 8, 4);
        x.relocation(2, 0, WORD, x.symbol(0, 0, 1, LOCAL), 0);
        x.relocation(2, 4, WORD, x.symbol(1, 0, 1, LOCAL), 0);
        return x;
    }

    /** Promise 1: not grouped. */
    private static void newObjectIsNotGrouped() {
        LinkYard x = backward(new LinkYard());
        x.link(0);
        Check.is("archive 0 is not gone through again", 2, x.about(0));
    }

    /** A loose unit needs a member of archive 3, which needs one of archive 0. */
    private static LinkYard backward(LinkYard x) {
        x.unit(NONE);
        x.unit(3);
        x.unit(0);
        x.other(0, UNDEFINED, 0, 1, GLOBAL);
        x.other(1, ABSOLUTE, 0, 1, GLOBAL);
        x.other(1, UNDEFINED, 0, 2, GLOBAL);
        x.other(2, ABSOLUTE, 0, 2, GLOBAL);
        return x;
    }

    /** Promise 2: loose (archive NONE) or a member of an archive (0 .. 3); refused for another. */
    private static void unitArchives() {
        LinkYard x = new LinkYard();
        for (int archive = NONE; archive <= 3; archive++) {
            Check.is("archive " + archive, archive + 1, x.unit(archive));
        }
        x.link(0);
        for (int unit = 0; unit <= 4; unit++) {
            Check.is("only the loose one is in", unit == 0, x.isIn(unit));
        }
        refusesEach("archive", WRONG, EdgeTellTest::small, LinkYard::unit,
                -2, 4, 5, LEAST, GREATEST);
        refusesEach("archive, as the first", WRONG, LinkYard::new, LinkYard::unit, -2, 4);
    }

    private static LinkYard fullOfUnits() {
        LinkYard x = small();
        for (int unit = 2; unit < 24; unit++) {
            Check.is("unit", unit, x.unit(unit % 5 - 1));
        }
        x.link(8192);
        return x;
    }

    /** Promise 2: UnsupportedOperationException if there are 24. */
    private static void unitsAreFull() {
        refusesEach("25th unit of", FULL, EdgeTellTest::fullOfUnits, LinkYard::unit,
                NONE, 0, 1, 2, 3);
        LinkYard x = fullOfUnits();
        Check.is("a section of the 24th", 3, x.section(23, TEXT, 4, 4));
        Check.is("a symbol of the 24th", 2, x.other(23, ABSOLUTE, 0, 1, GLOBAL));
        x.link(0);
        Check.is("the 24th is a member", false, x.isIn(23));
    }

    /** Promise 3: IllegalArgumentException if there is no such unit. */
    private static void sectionUnits() {
        refusesEach("section of unit", WRONG, EdgeTellTest::small,
                (x, unit) -> x.section(unit, TEXT, 4, 4), -1, 2, 3, 23, 24, LEAST, GREATEST);
        refusesEach("section of unit, without any", WRONG, LinkYard::new,
                (x, unit) -> x.section(unit, TEXT, 4, 4), -1, 0, 1);
        Check.is("of the last unit", 3, small().section(1, TEXT, 4, 4));
    }

    /** Promise 3: .. no such kind; terms: 0 TEXT, 1 DATA, 2 ZERO. */
    private static void sectionKinds() {
        refusesEach("section of kind", WRONG, EdgeTellTest::small,
                (x, kind) -> x.section(0, kind, 4, 4), -1, 3, 4, LEAST, GREATEST);
        for (int kind = 0; kind <= 2; kind++) {
            Check.is("kind " + kind, 3, small().section(0, kind, 4, 4));
        }
    }

    /** Promise 3: .. no such size; terms: a multiple of 4, 0 to 8192. */
    private static void sectionSizes() {
        for (int kind = TEXT; kind <= ZERO; kind++) {
            int k = kind;
            refusesEach("section of size", WRONG, EdgeTellTest::small,
                    (x, size) -> x.section(0, k, size, 4), -4, -1, 1, 2, 3, 5, 6, 7, 8190, 8191,
                    8193, 8194, 8196, 16384, LEAST, GREATEST, GREATEST - 3);
            for (int size : new int[] {0, 4, 8, 12, 8188, 8192}) {
                LinkYard x = yard(NONE);
                kept(x, kind, size, 4);
                Check.is("size " + size, size, x.link(0));
            }
        }
    }

    /** Promise 3: .. no such alignment; terms: 4, 8, 16, .. up to 4096. */
    private static void sectionAlignments() {
        refusesEach("section of alignment", WRONG, EdgeTellTest::small,
                (x, alignment) -> x.section(0, TEXT, 4, alignment), 0, 1, 2, 3, 5, 6, 12, 20, 24,
                36, 4092, 4095, 4097, 4100, 6144, 8192, 1 << 30, -1, -4, -8, -4096, LEAST,
                GREATEST);
        for (int alignment = 4; alignment <= 4096; alignment *= 2) {
            LinkYard x = yard(NONE);
            kept(x, DATA, 4, 4);
            kept(x, DATA, 4, alignment);
            Check.is("aligned to " + alignment, alignment + 4, x.link(0));
            Check.is("address", alignment, x.address(1));
        }
    }

    private static LinkYard fullOfSections() {
        LinkYard x = small();
        for (int section = 3; section < 96; section++) {
            Check.is("section", section, x.section(section % 2, section % 3, 4, 4));
        }
        x.link(8192);
        return x;
    }

    /** Promise 3: UnsupportedOperationException if there are 96; terms: in all units. */
    private static void sectionsAreFull() {
        refusesEach("97th section, of kind", FULL, EdgeTellTest::fullOfSections,
                (x, kind) -> x.section(kind % 2, kind, 0, 4), TEXT, DATA, ZERO);
        refused("97th section, of 4 bytes", FULL, EdgeTellTest::fullOfSections,
                x -> x.section(1, TEXT, 4, 4));
        LinkYard x = fullOfSections();
        x.word(94, 0, 6);
        x.keep(94, true);
        x.keep(95, true);
        Check.is("a symbol of the 96th", 2, x.symbol(95, 4, 9, LOCAL));
        Check.is("the 95th and 96th are kept", 16, x.link(0));
        Check.is("the word of the 95th", 6, x.at(8));
    }

    /** 399996 bytes: 16 sections of each kind with 8192, and one with 6780. */
    private static LinkYard fullOfBytes() {
        LinkYard x = yard(NONE);
        for (int section = 0; section < 48; section++) {
            x.section(0, section % 3, 8192, 4);
        }
        Check.is("49th section", 48, x.section(0, ZERO, 6780, 4));
        x.keep(0, true);
        x.link(8192);
        return x;
    }

    /** Promise 3: .. or too many bytes; terms: All sections together have at most 400000 bytes. */
    private static void bytesAreFull() {
        for (int kind = TEXT; kind <= ZERO; kind++) {
            int k = kind;
            refusesEach("too many bytes", FULL, EdgeTellTest::fullOfBytes,
                    (x, size) -> x.section(0, k, size, 4), 8, 12, 8188, 8192);
            LinkYard x = fullOfBytes();
            Check.is("400000 bytes", 49, x.section(0, k, 4, 4096));
            Check.refuses("4 more", FULL, () -> x.section(0, k, 4, 4));
            Check.is("none more", 50, x.section(0, k, 0, 4));
        }
        LinkYard x = fullOfBytes();
        x.section(0, DATA, 4, 4);
        for (int section = 0; section < 50; section++) {
            x.keep(section, true);
        }
        x.word(49, 0, 123);
        Check.is("all are laid", 400000, x.link(1048576));
        Check.is("the last word", 123, x.at(x.address(49)));
    }

    /** A call that throws changes nothing: the bytes of a refused section are not counted. */
    private static void bytesOfWhatIsRefused() {
        LinkYard x = fullOfBytes();
        for (int i = 0; i < 60; i++) {
            Check.refuses("too many", FULL, () -> x.section(0, DATA, 8, 4));
            Check.refuses("of no unit", WRONG, () -> x.section(1, DATA, 4, 4));
            Check.refuses("of no alignment", WRONG, () -> x.section(0, DATA, 4, 2));
        }
        Check.is("4 bytes are left", 49, x.section(0, DATA, 4, 4));
    }

    /** Promise 4: IllegalArgumentException if there is no such section. */
    private static void wordSections() {
        refusesEach("word of section", WRONG, EdgeTellTest::small,
                (x, section) -> x.word(section, 0, 1), -1, 3, 4, 95, 96, LEAST, GREATEST);
        refusesEach("word without a section", WRONG, LinkYard::new,
                (x, section) -> x.word(section, 0, 1), -1, 0);
    }

    /** Promise 4: .. it is a ZERO one. */
    private static void wordsOfZeroOnes() {
        refusesEach("word of a ZERO section at", WRONG, EdgeTellTest::small,
                (x, place) -> x.word(1, place, 1), 0, 4, 8);
    }

    /** Promise 4: .. or there is no such place; terms: 0, 4, .. below the size. */
    private static void wordPlaces() {
        refusesEach("word at", WRONG, EdgeTellTest::small, (x, place) -> x.word(0, place, 1),
                NO_PLACES_OF_8);
        for (int kind = TEXT; kind <= DATA; kind++) {
            LinkYard x = yard(NONE);
            kept(x, kind, 8192, 4);
            for (int place : new int[] {0, 4, 4096, 8184, 8188}) {
                x.word(0, place, place + 1);
            }
            Check.refuses("at the end", WRONG, () -> x.word(0, 8192, 1));
            x.link(0);
            for (int place : new int[] {0, 4, 4096, 8184, 8188}) {
                Check.is("word at " + place, place + 1, x.at(place));
            }
            Check.is("beside", 0, x.at(8));
        }
    }

    /** Terms: a SIZE of 0: an empty section has no place for a word. */
    private static void wordsOfEmptyOnes() {
        refusesEach("word of an empty section at", WRONG, EdgeTellTest::small,
                (x, place) -> x.word(2, place, 1), -4, 0, 4);
    }

    /** Terms: words (0 at first). */
    private static void wordsAtFirst() {
        LinkYard x = yard(NONE);
        kept(x, TEXT, 12, 4);
        kept(x, DATA, 12, 4);
        x.link(4096);
        for (int address = 4096; address < 4120; address += 4) {
            Check.is("word at " + address, 0, x.at(address));
        }
    }

    /** Promise 4: a word is any int, and the latest one that was told. */
    private static void wordValues() {
        for (int v : new int[] {LEAST, -1, 0, 1, GREATEST}) {
            LinkYard x = yard(NONE);
            kept(x, DATA, 8, 4);
            x.word(0, 4, 5);
            x.word(0, 4, v);
            x.link(0);
            Check.is("word " + v, v, x.at(4));
            Check.is("the one before", 0, x.at(0));
        }
    }

    /** Promise 5: IllegalArgumentException if there is no such section. */
    private static void symbolSections() {
        refusesEach("symbol of section", WRONG, EdgeTellTest::small,
                (x, section) -> x.symbol(section, 0, 9, GLOBAL), -1, 3, 4, 96, LEAST, GREATEST);
        refusesEach("symbol without a section", WRONG, LinkYard::new,
                (x, section) -> x.symbol(section, 0, 9, GLOBAL), -1, 0);
    }

    /** Promise 5: .. no such place; terms: any, 0 .. the section's size. */
    private static void symbolPlaces() {
        for (int section = 0; section <= 1; section++) {
            int s = section;
            refusesEach("symbol at", WRONG, EdgeTellTest::small,
                    (x, place) -> x.symbol(s, place, 9, GLOBAL), -1, 9, 12, LEAST, GREATEST);
            for (int place = 0; place <= 8; place++) {
                LinkYard x = small();
                Check.is("symbol", 2, x.symbol(s, place, 9, GLOBAL));
                x.keep(s, true);
                x.link(4096);
                Check.is("its address", x.address(s) + place, x.means(2, 2));
            }
        }
    }

    /** Terms: 0 .. the section's size: of an empty one 0 alone, its beginning and its end. */
    private static void symbolsOfEmptyOnes() {
        refusesEach("symbol of an empty section at", WRONG, EdgeTellTest::small,
                (x, place) -> x.symbol(2, place, 9, GLOBAL), -1, 1, 4);
        LinkYard x = small();
        Check.is("at 0", 2, x.symbol(2, 0, 9, GLOBAL));
        x.entry(9);
        x.link(4096);
        Check.is("its section is reached", 2, x.about(1));
        Check.is("its address", 4104, x.means(2, 2));
    }

    /** Promise 5: .. no such name; terms: 0 .. 199. */
    private static void symbolNames() {
        refusesEach("symbol of name", WRONG, EdgeTellTest::small,
                (x, name) -> x.symbol(0, 0, name, GLOBAL), NO_NAMES);
        refusesEach("LOCAL symbol of name", WRONG, EdgeTellTest::small,
                (x, name) -> x.symbol(0, 0, name, LOCAL), NO_NAMES);
        for (int name : new int[] {0, 199}) {
            LinkYard x = small();
            Check.is("name " + name, 2, x.symbol(0, 4, name, GLOBAL));
            x.entry(name);
            Check.is("it is defined", 8, x.link(0));
        }
    }

    /** Promise 5: .. the binding is not 0 .. 2. */
    private static void symbolBindings() {
        refusesEach("symbol of binding", WRONG, EdgeTellTest::small,
                (x, binding) -> x.symbol(0, 0, 9, binding), -1, 3, 4, LEAST, GREATEST);
        for (int binding = LOCAL; binding <= WEAK; binding++) {
            LinkYard x = small();
            Check.is("binding " + binding, 2, x.symbol(0, 0, 9, binding));
        }
    }

    /** One symbol more of name 7 in unit 0: in a section, UNDEFINED, ABSOLUTE or COMMON. */
    private static int seventh(LinkYard x, int form, int binding) {
        switch (form) {
            case 0: return x.symbol(0, 0, 7, binding);
            case 1: return x.other(0, UNDEFINED, 0, 7, binding);
            case 2: return x.other(0, ABSOLUTE, 0, 7, binding);
            default: return x.other(0, SIZED, 4, 7, binding);
        }
    }

    private static boolean hasForm(int form, int binding) {
        return form == 3 ? binding == COMMON : binding <= WEAK && (form != 1 || binding != LOCAL);
    }

    /** Promises 5 and 6: .. or its unit has that name already and neither is LOCAL. */
    private static void namesThatAUnitHas() {
        for (int pair = 0; pair < 256; pair++) {
            int form = pair % 4, binding = pair / 4 % 4;
            int nextForm = pair / 16 % 4, nextBinding = pair / 64;
            if (!hasForm(form, binding) || !hasForm(nextForm, nextBinding)) {
                continue;
            }
            String what = form + " " + binding + " and " + nextForm + " " + nextBinding;
            if (binding == LOCAL || nextBinding == LOCAL) {
                LinkYard x = small();
                Check.is(what, 2, seventh(x, form, binding));
                Check.is(what, 3, seventh(x, nextForm, nextBinding));
            } else {
                refused(what, WRONG, () -> {
                    LinkYard x = small();
                    seventh(x, form, binding);
                    x.link(8192);
                    return x;
                }, x -> seventh(x, nextForm, nextBinding));
            }
        }
        LinkYard x = small();
        Check.is("a name that another unit has", 2, x.other(1, ABSOLUTE, 0, 1, GLOBAL));
    }

    /** 400 symbols: names 0 and 3 to 199 are free of GLOBAL ones in unit 0. */
    private static LinkYard fullOfSymbols() {
        LinkYard x = small();
        for (int s = 2; s < 400; s++) {
            Check.is("symbol", s, s % 2 == 0 ? x.symbol(s % 4 / 2, 0, s / 2, LOCAL)
                    : x.other(1, ABSOLUTE, s, s / 2, LOCAL));
        }
        x.link(8192);
        return x;
    }

    /** Promises 5 and 6: UnsupportedOperationException if there are 400; terms: in all. */
    private static void symbolsAreFull() {
        refusesEach("401st symbol, of binding", FULL, EdgeTellTest::fullOfSymbols,
                (x, binding) -> x.symbol(0, 0, 199, binding), LOCAL, GLOBAL, WEAK);
        refusesEach("401st symbol, ABSOLUTE of binding", FULL, EdgeTellTest::fullOfSymbols,
                (x, binding) -> x.other(1, ABSOLUTE, 4, 199, binding), LOCAL, GLOBAL, WEAK);
        refused("401st symbol, UNDEFINED", FULL, EdgeTellTest::fullOfSymbols,
                x -> x.other(0, UNDEFINED, 4, 199, WEAK));
        refused("401st symbol, COMMON", FULL, EdgeTellTest::fullOfSymbols,
                x -> x.other(0, SIZED, 4, 199, COMMON));
        LinkYard x = fullOfSymbols();
        Check.is("a relocation of the 399th", 0, x.relocation(0, 4, WORD, 398, 1));
        x.link(0);
        Check.is("what the 399th means", 9, x.at(4));
        Check.is("what the 400th means", 399, x.means(399, 2));
    }

    /** Promise 6: IllegalArgumentException if there is no such unit. */
    private static void otherUnits() {
        refusesEach("other of unit", WRONG, EdgeTellTest::small,
                (x, unit) -> x.other(unit, ABSOLUTE, 4, 9, GLOBAL), -1, 2, 3, 24, LEAST, GREATEST);
        refusesEach("other without a unit", WRONG, LinkYard::new,
                (x, unit) -> x.other(unit, UNDEFINED, 4, 9, GLOBAL), -1, 0);
        Check.is("of the last unit", 2, small().other(1, ABSOLUTE, 4, 9, GLOBAL));
    }

    /** Promise 6: .. no such sort: 0, 1 and 2 are all. */
    private static void otherSorts() {
        for (int binding = LOCAL; binding <= COMMON; binding++) {
            int b = binding;
            refusesEach("other of sort", WRONG, EdgeTellTest::small,
                    (x, sort) -> x.other(0, sort, 4, 9, b), -1, 3, 4, LEAST, GREATEST);
        }
    }

    /** Promise 6: .. no such binding: UNDEFINED 1 or 2, ABSOLUTE 0 .. 2, COMMON 3. */
    private static void otherBindings() {
        refusesEach("UNDEFINED of binding", WRONG, EdgeTellTest::small,
                (x, binding) -> x.other(0, UNDEFINED, 4, 9, binding), -1, 0, 3, 4, LEAST, GREATEST);
        refusesEach("ABSOLUTE of binding", WRONG, EdgeTellTest::small,
                (x, binding) -> x.other(0, ABSOLUTE, 4, 9, binding), -1, 3, 4, LEAST, GREATEST);
        refusesEach("COMMON of binding", WRONG, EdgeTellTest::small,
                (x, binding) -> x.other(0, SIZED, 4, 9, binding), -1, 0, 1, 2, 4, LEAST, GREATEST);
        int[][] right = {{UNDEFINED, GLOBAL}, {UNDEFINED, WEAK}, {ABSOLUTE, LOCAL},
            {ABSOLUTE, GLOBAL}, {ABSOLUTE, WEAK}, {SIZED, COMMON}};
        for (int[] pair : right) {
            Check.is("sort and binding", 2, small().other(0, pair[0], 4, 9, pair[1]));
        }
    }

    /** Promise 6: .. no such name; terms: 0 .. 199. */
    private static void otherNames() {
        for (int sort = UNDEFINED; sort <= SIZED; sort++) {
            int s = sort, binding = sort == SIZED ? COMMON : GLOBAL;
            refusesEach("other of name", WRONG, EdgeTellTest::small,
                    (x, name) -> x.other(0, s, 4, name, binding), NO_NAMES);
            Check.is("the least name", 2, small().other(0, s, 4, 0, binding));
            Check.is("the greatest name", 2, small().other(0, s, 4, 199, binding));
        }
    }

    /** Promise 6: .. no such size; terms: 4, 8, .. 8192. */
    private static void otherSizes() {
        refusesEach("COMMON of size", WRONG, EdgeTellTest::small,
                (x, size) -> x.other(0, SIZED, size, 9, COMMON), -4, -1, 0, 1, 2, 3, 5, 6, 7, 8190,
                8191, 8193, 8196, LEAST, GREATEST, GREATEST - 3);
        for (int size : new int[] {4, 8, 8188, 8192}) {
            LinkYard x = yard(NONE);
            kept(x, DATA, 4, 4);
            x.relocation(0, 0, WORD, x.other(0, SIZED, size, 9, COMMON), 0);
            Check.is("size " + size, 4 + size, x.link(0));
        }
    }

    /** Promise 6: v doesn't matter for UNDEFINED ones, and is any number for ABSOLUTE ones. */
    private static void otherValues() {
        for (int v : new int[] {LEAST, -1, 0, 3, 8193, GREATEST}) {
            LinkYard x = yard(NONE);
            x.other(0, UNDEFINED, v, 0, WEAK);
            x.other(0, UNDEFINED, v, 1, GLOBAL);
            x.other(0, ABSOLUTE, v, 2, LOCAL);
            x.other(0, ABSOLUTE, v, 3, GLOBAL);
            x.other(0, ABSOLUTE, v, 4, WEAK);
            x.link(0);
            int[] due = {0, 0, v, v, v};
            for (int s = 0; s < due.length; s++) {
                Check.is("number of " + s, due[s], x.means(s, 2));
            }
        }
    }

    /** Promise 7: IllegalArgumentException if there is no such section. */
    private static void relocationSections() {
        refusesEach("relocation of section", WRONG, EdgeTellTest::small,
                (x, section) -> x.relocation(section, 0, WORD, 0, 0), -1, 3, 4, 96, LEAST,
                GREATEST);
        refusesEach("relocation without a section", WRONG, LinkYard::new,
                (x, section) -> x.relocation(section, 0, WORD, 0, 0), -1, 0);
    }

    /** Promise 7: .. it is a ZERO one. */
    private static void relocationsOfZeroOnes() {
        refusesEach("relocation of a ZERO section at", WRONG, EdgeTellTest::small,
                (x, place) -> x.relocation(1, place, WORD, 0, 0), 0, 4, 8);
    }

    /** Promise 7: .. there is no such place, in an empty section none at all. */
    private static void relocationPlaces() {
        refusesEach("relocation at", WRONG, EdgeTellTest::small,
                (x, place) -> x.relocation(0, place, WORD, 0, 0), NO_PLACES_OF_8);
        refusesEach("relocation of an empty section at", WRONG, EdgeTellTest::small,
                (x, place) -> x.relocation(2, place, WORD, 0, 0), -4, 0, 4);
        LinkYard x = small();
        Check.is("the first place", 0, x.relocation(0, 0, WORD, 0, 1));
        Check.is("the last place", 1, x.relocation(0, 4, WORD, 0, 2));
        x.link(4096);
        Check.is("the first word", 77 + 4097, x.at(4096));
        Check.is("the last word", 4098, x.at(4100));
    }

    /** Promise 7: .. or sort; terms: 0 .. 5. */
    private static void relocationSorts() {
        refusesEach("relocation of sort", WRONG, EdgeTellTest::small,
                (x, sort) -> x.relocation(0, 0, sort, 0, 0), -1, 6, 7, LEAST, GREATEST);
        for (int sort = WORD; sort <= JUMP; sort++) {
            Check.is("sort " + sort, 0, small().relocation(0, 0, sort, 0, 0));
        }
    }

    /** Promise 7: .. or no such symbol of its unit. */
    private static void relocationSymbols() {
        refusesEach("relocation of symbol", WRONG, EdgeTellTest::small,
                (x, symbol) -> x.relocation(0, 0, WORD, symbol, 0), -1, 2, 3, 400, LEAST, GREATEST);
        refusesEach("relocation of another unit's symbol", WRONG, EdgeTellTest::small,
                (x, symbol) -> x.relocation(0, 0, WORD, symbol, 0), 1);
        LinkYard x = small();
        int section = x.section(1, DATA, 4, 4);
        Check.refuses("the first unit's symbol", WRONG, () -> x.relocation(section, 0, WORD, 0, 0));
        Check.is("the last symbol", 0, x.relocation(section, 0, WORD, 1, 0));
    }

    /** Promise 7 names no addend that is refused. */
    private static void relocationAddends() {
        for (int addend : new int[] {LEAST, -1, 0, 1, GREATEST}) {
            LinkYard x = small();
            Check.is("addend", 0, x.relocation(0, 4, WORD, 0, addend));
            x.link(0);
            Check.is("addend " + addend, addend, x.at(4));
        }
    }

    /**
     * Promise 7: UnsupportedOperationException if there are 600. An object of 512 calls can not
     * meet this; the class keeps to it all the same.
     */
    private static void relocationsAreFull() {
        LinkYard x = small();
        for (int r = 0; r < 600; r++) {
            Check.is("relocation", r, x.relocation(0, r % 2 * 4, WORD, 0, 1));
        }
        x.link(0);
        Check.refuses("601st relocation", FULL, () -> x.relocation(0, 0, WORD, 0, 0));
        Check.refuses("601st relocation of no sort", WRONG, () -> x.relocation(0, 0, 6, 0, 0));
        Check.is("all of them are done", 300, x.at(4));
    }

    /** Promise 8: NONE: there is none. IllegalArgumentException for another one. */
    private static void entryNames() {
        refusesEach("entry", WRONG, EdgeTellTest::small, LinkYard::entry, -2, 200, 201, LEAST,
                GREATEST);
        refused("an entry that is refused leaves the one before", WRONG, () -> {
            LinkYard x = small();
            x.entry(1);
            x.link(8192);
            return x;
        }, x -> x.entry(200));
        LinkYard x = yard(NONE);
        for (int name : new int[] {0, 199}) {
            x.entry(name);
            faults("entry " + name, x, MISSING, name, NONE);
        }
        x.entry(NONE);
        Check.is("no entry", 0, x.link(0));
    }

    /** Promise 9: IllegalArgumentException if there is none such. */
    private static void keptSections() {
        refusesEach("keep", WRONG, EdgeTellTest::small, (x, s) -> x.keep(s, true), -1, 3, 4, 96,
                LEAST, GREATEST);
        refusesEach("keep not", WRONG, EdgeTellTest::small, (x, s) -> x.keep(s, false), -1, 3,
                LEAST, GREATEST);
        refusesEach("keep without a section", WRONG, LinkYard::new, (x, s) -> x.keep(s, true), -1,
                0);
    }

    /** Promise 9: A section is KEPT, or not any more; an empty one too. */
    private static void keptAgain() {
        LinkYard x = small();
        x.keep(2, true);
        x.keep(2, true);
        x.link(0);
        Check.is("an empty one is kept", 2, x.about(1));
        Check.is("behind the other", 8, x.address(2));
        x.keep(2, false);
        x.keep(2, false);
        x.keep(0, false);
        Check.is("none is kept any more", 0, x.link(0));
        Check.is("none is reached", 0, x.about(1));
    }

    /** Promise 10: Whether like sections are FOLDED, and archives GROUPED: the latest counts. */
    private static void foldedAgain() {
        for (int i = 0; i < 8; i++) {
            boolean folds = i % 2 == 1, groups = i / 2 % 2 == 1, before = i / 4 == 1;
            LinkYard x = twins(new LinkYard());
            x.fold(before, !before);
            x.fold(folds, groups);
            x.link(0);
            Check.is("folded " + folds, folds ? 1 : 0, x.about(2));
            LinkYard y = backward(new LinkYard());
            y.fold(!before, before);
            y.fold(folds, groups);
            y.link(0);
            Check.is("grouped " + groups, groups ? 3 : 2, y.about(0));
        }
        LinkYard empty = new LinkYard();
        empty.fold(true, true);
        Check.is("nothing to fold", 0, empty.link(0));
        isAbout("nothing to fold", empty, 0, 0, 0, 0, NONE, 0, 0, 1);
    }

    /** Promise 11: All is as at first: of an empty object too. */
    private static void clearedWhenEmpty() {
        LinkYard x = new LinkYard();
        x.clear();
        x.clear();
        isFault("cleared", x, 0, NONE, NONE);
        Check.refuses("cleared", UNLINKED, () -> x.about(0));
        Check.is("cleared", 0, x.link(0));
        x.clear();
        Check.refuses("the link is taken away", UNLINKED, () -> x.at(0));
    }

    /** Promise 11: All is as at first: of full objects too, whose counts begin anew. */
    private static void clearedWhenFull() {
        for (LinkYard x : new LinkYard[] {fullOfUnits(), fullOfSections(), fullOfBytes(),
            fullOfSymbols()}) {
            x.entry(5);
            x.fold(true, true);
            x.clear();
            isFault("cleared", x, 0, NONE, NONE);
            Check.is("no entry", 0, x.link(4096));
            isAbout("cleared", x, 0, 0, 0, 0, NONE, 0, 4096, 1);
            Check.refuses("no unit", WRONG, () -> x.isIn(0));
            Check.refuses("no section", WRONG, () -> x.address(0));
            Check.refuses("no symbol", WRONG, () -> x.means(0, 0));
            twins(x);
            Check.is("not folded, and the words are 0", 16, x.link(0));
            Check.is("a word", 0, x.at(0));
            x.clear();
            backward(x);
            x.link(0);
            Check.is("not grouped", 2, x.about(0));
        }
        LinkYard x = fullOfBytes();
        x.clear();
        x.unit(NONE);
        for (int i = 0; i < 48; i++) {
            Check.is("as many bytes again", i, x.section(0, TEXT, 8192, 4));
        }
        Check.refuses("and no more", FULL, () -> x.section(0, TEXT, 6788, 4));
        Check.is("400000", 48, x.section(0, TEXT, 6784, 4));
    }

    /** Promise 11: All is as at first: the fault is gone. */
    private static void clearedWithAFault() {
        LinkYard x = small();
        x.entry(9);
        faults("missing", x, MISSING, 9, NONE);
        x.clear();
        isFault("cleared", x, 0, NONE, NONE);
    }

    /** Promise 11: All is as at first: sections aren't kept, nor have they words or relocations. */
    private static void clearedOfAllThatWasTold() {
        LinkYard x = small();
        x.relocation(0, 0, WORD, x.other(0, SIZED, 8192, 3, COMMON), 5);
        x.relocation(0, 4, JUMP, 0, 1);
        Check.is("a fault", NONE, x.link(0));
        x.clear();
        x.unit(NONE);
        Check.is("the first section", 0, x.section(0, TEXT, 8, 4));
        Check.is("the first symbol", 0, x.other(0, ABSOLUTE, 9, 3, WEAK));
        Check.is("it isn't kept", 0, x.link(0));
        Check.is("its name is no common place's", 2, x.means(0, 0));
        x.keep(0, true);
        Check.is("it is kept", 8, x.link(0));
        Check.is("its first word", 0, x.at(0));
        Check.is("its second word", 0, x.at(4));
        Check.is("the first relocation", 0, x.relocation(0, 4, WORD, 0, 0));
        x.link(0);
        Check.is("it alone is done", 9, x.at(4));
    }

    /** Of several exceptions the one that it names first is thrown. */
    private static void fullBehindWrong() {
        refusesEach("full, and archive", WRONG, EdgeTellTest::fullOfUnits, LinkYard::unit, -2, 4);
        refused("full, and no unit", WRONG, EdgeTellTest::fullOfSections,
                x -> x.section(2, TEXT, 4, 4));
        refused("full, and no kind", WRONG, EdgeTellTest::fullOfSections,
                x -> x.section(0, 3, 4, 4));
        refused("full, and no size", WRONG, EdgeTellTest::fullOfSections,
                x -> x.section(0, TEXT, 8196, 4));
        refused("full, and no alignment", WRONG, EdgeTellTest::fullOfSections,
                x -> x.section(0, TEXT, 4, 8192));
        refused("full of bytes, and no size", WRONG, EdgeTellTest::fullOfBytes,
                x -> x.section(0, TEXT, 8196, 4));
        refused("full of bytes, and no alignment", WRONG, EdgeTellTest::fullOfBytes,
                x -> x.section(0, TEXT, 8192, 12));
        refused("full, and no section", WRONG, EdgeTellTest::fullOfSymbols,
                x -> x.symbol(3, 0, 199, GLOBAL));
        refused("full, and no place", WRONG, EdgeTellTest::fullOfSymbols,
                x -> x.symbol(0, 9, 199, GLOBAL));
        refused("full, and no name", WRONG, EdgeTellTest::fullOfSymbols,
                x -> x.symbol(0, 0, 200, GLOBAL));
        refused("full, and no binding", WRONG, EdgeTellTest::fullOfSymbols,
                x -> x.symbol(0, 0, 199, COMMON));
        refused("full, and a name that its unit has", WRONG, EdgeTellTest::fullOfSymbols,
                x -> x.symbol(0, 0, 1, WEAK));
        refused("full, and another one of that name", WRONG, EdgeTellTest::fullOfSymbols,
                x -> x.other(1, SIZED, 4, 2, COMMON));
        refused("full, and no sort", WRONG, EdgeTellTest::fullOfSymbols,
                x -> x.other(0, 3, 4, 199, GLOBAL));
        refused("full, and no size of a common place", WRONG, EdgeTellTest::fullOfSymbols,
                x -> x.other(0, SIZED, 0, 199, COMMON));
    }

    private interface Telling {
        void tell(LinkYard x);
    }

    /** What is told (unit() to fold()) takes the link away, be it news or not. */
    private static void toldTakesTheLinkAway() {
        Telling[] all = {x -> x.unit(NONE), x -> x.section(0, DATA, 0, 4), x -> x.word(0, 0, 77),
            x -> x.symbol(0, 0, 1, LOCAL), x -> x.other(0, ABSOLUTE, 0, 1, LOCAL),
            x -> x.relocation(0, 0, WORD, 0, 0), x -> x.entry(NONE), x -> x.keep(0, true),
            x -> x.fold(false, false), x -> x.clear()};
        for (Telling one : all) {
            LinkYard x = small();
            Check.is("linked", 8200, x.about(6));
            one.tell(x);
            Check.refuses("told", UNLINKED, () -> x.about(6));
            Check.refuses("told", UNLINKED, () -> x.at(8192));
            isFault("told", x, 0, NONE, NONE);
            LinkYard y = small();
            y.entry(5);
            y.link(0);
            Check.is("a fault", MISSING, y.fault(0));
            one.tell(y);
            isFault("told behind a fault", y, 0, NONE, NONE);
        }
    }
}
