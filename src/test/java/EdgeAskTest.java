import java.util.function.Supplier;

/**
 * The boundary cases of what is asked about a link, promises 14 to 20: ahead of each test stands
 * the document's sentence that it holds to.
 */
public final class EdgeAskTest extends Edge {
    private static final int[] ALWAYS_WRONG = {-1, -2, LEAST, GREATEST};

    public static void main(String[] args) {
        unlinkedIsIn();
        unlinkedAddress();
        unlinkedLike();
        unlinkedMeans();
        unlinkedCommon();
        unlinkedAt();
        unlinkedAbout();
        isInOfNone();
        isInOfAll();
        addressOfNone();
        addressesOfAll();
        addressIfNotReached();
        addressOfZero();
        likeOfNone();
        likeItself();
        likeIfNotReached();
        likeOfFoldedOnes();
        meansOfNone();
        meansOfAnotherWhat();
        meansOfAll();
        meansIfItsUnitIsNotIn();
        meansASection();
        meansANumber();
        meansACommonPlace();
        meansNothing();
        commonOfNoName();
        commonOfNone();
        commonOfAll();
        atBelowTheBase();
        atTheEnd();
        atNoMultiple();
        atOfNothing();
        atZeroOnes();
        atGaps();
        atEmptyOnes();
        atFoldedOnes();
        aboutAnotherWhat();
        aboutNothing();
        aboutAll();
        Check.end();
    }

    /** Linked: TEXT 0 (8192), ZERO 1 (8200), DATA 2 that isn't reached; unit 1 isn't in. */
    private static LinkYard linked() {
        LinkYard x = yard(NONE, 0);
        kept(x, TEXT, 8, 4);
        kept(x, ZERO, 8, 4);
        x.section(0, DATA, 8, 4);
        x.symbol(0, 4, 1, GLOBAL);
        x.other(1, ABSOLUTE, 5, 2, WEAK);
        x.other(0, SIZED, 4, 3, COMMON);
        x.word(0, 0, 77);
        x.link(8192);
        return x;
    }

    private static LinkYard faulted() {
        LinkYard x = linked();
        x.entry(199);
        x.link(8192);
        return x;
    }

    private static LinkYard told() {
        LinkYard x = linked();
        x.fold(false, false);
        return x;
    }

    private static LinkYard cleared() {
        LinkYard x = linked();
        x.clear();
        return x;
    }

    /** IllegalStateException if nothing is linked, named first: whatever is asked for. */
    private static void unlinked(String what, NumberCall call) {
        int[] numbers = {0, 1, 8192, 3, -1, 200, LEAST, GREATEST};
        refusesEach(what + " of a new object", UNLINKED, LinkYard::new, call, numbers);
        refusesEach(what + " behind a fault", UNLINKED, EdgeAskTest::faulted, call, numbers);
        refusesEach(what + " behind what is told", UNLINKED, EdgeAskTest::told, call, numbers);
        refusesEach(what + " of a cleared object", UNLINKED, EdgeAskTest::cleared, call, numbers);
    }

    private static void wrong(String what, NumberCall call, int... numbers) {
        refusesEach(what, WRONG, EdgeAskTest::linked, call, numbers);
        refusesEach(what, WRONG, EdgeAskTest::linked, call, ALWAYS_WRONG);
    }

    /** Of an object that has no units at all and is linked. */
    private static LinkYard linkedEmpty() {
        LinkYard x = new LinkYard();
        x.link(8192);
        return x;
    }

    /** Promise 14: IllegalStateException if nothing is linked. */
    private static void unlinkedIsIn() {
        unlinked("isIn", LinkYard::isIn);
    }

    /** Promise 15: IllegalStateException if nothing is linked. */
    private static void unlinkedAddress() {
        unlinked("address", LinkYard::address);
    }

    /** Promise 16: Exceptions as for address(). */
    private static void unlinkedLike() {
        unlinked("like", LinkYard::like);
    }

    /** Promise 17: IllegalStateException if nothing is linked. */
    private static void unlinkedMeans() {
        unlinked("means", (x, symbol) -> x.means(symbol, 0));
        unlinked("means, what", (x, what) -> x.means(0, what));
    }

    /** Promise 18: IllegalStateException if nothing is linked. */
    private static void unlinkedCommon() {
        unlinked("common", LinkYard::common);
    }

    /** Promise 19: IllegalStateException if nothing is linked. */
    private static void unlinkedAt() {
        unlinked("at", LinkYard::at);
    }

    /** Promise 20: IllegalStateException if nothing is linked. */
    private static void unlinkedAbout() {
        unlinked("about", LinkYard::about);
    }

    /** Promise 14: IllegalArgumentException if there is none such. */
    private static void isInOfNone() {
        wrong("isIn", LinkYard::isIn, 2, 3, 23, 24);
        refusesEach("isIn without units", WRONG, EdgeAskTest::linkedEmpty, LinkYard::isIn, -1, 0);
    }

    /** Promise 14: Whether a unit is in: the first and the last of 24. */
    private static void isInOfAll() {
        LinkYard x = new LinkYard();
        for (int unit = 0; unit < 24; unit++) {
            x.unit(unit == 0 || unit == 23 ? NONE : unit % 4);
        }
        x.link(0);
        for (int unit = 0; unit < 24; unit++) {
            Check.is("isIn " + unit, unit == 0 || unit == 23, x.isIn(unit));
        }
        Check.refuses("isIn 24", WRONG, () -> x.isIn(24));
    }

    /** Promise 15: IllegalArgumentException if there is none such. */
    private static void addressOfNone() {
        wrong("address", LinkYard::address, 3, 4, 95, 96);
        refusesEach("address without sections", WRONG, EdgeAskTest::linkedEmpty,
                LinkYard::address, -1, 0);
    }

    /** 96 sections of 4 bytes, kept. */
    private static LinkYard manySections() {
        LinkYard x = yard(NONE);
        for (int s = 0; s < 96; s++) {
            kept(x, DATA, 4, 4);
        }
        x.link(4096);
        return x;
    }

    /** Promise 15: The address of a section: the first and the last of 96. */
    private static void addressesOfAll() {
        LinkYard x = manySections();
        Check.is("the first", 4096, x.address(0));
        Check.is("the last", 4096 + 380, x.address(95));
        Check.refuses("address 96", WRONG, () -> x.address(96));
    }

    /** Promise 15: NONE if it isn't reached: of a unit that is in or isn't. */
    private static void addressIfNotReached() {
        LinkYard x = yard(NONE, 0);
        x.section(0, TEXT, 4, 4);
        x.section(1, DATA, 4, 4);
        x.section(0, ZERO, 0, 4);
        x.keep(1, true);
        x.link(4096);
        for (int s = 0; s < 3; s++) {
            Check.is("address " + s, NONE, x.address(s));
        }
    }

    /** Promise 15: The address of a section: 0 is one. */
    private static void addressOfZero() {
        LinkYard x = yard(NONE);
        kept(x, TEXT, 0, 4096);
        kept(x, DATA, 4, 4096);
        x.link(0);
        Check.is("an empty one", 0, x.address(0));
        Check.is("another one", 0, x.address(1));
    }

    /** Promise 16: Exceptions as for address(). */
    private static void likeOfNone() {
        wrong("like", LinkYard::like, 3, 4, 95, 96);
        refusesEach("like without sections", WRONG, EdgeAskTest::linkedEmpty, LinkYard::like, -1,
                0);
    }

    /** Promise 16: itself if it is not [folded]: the first and the last of 96. */
    private static void likeItself() {
        LinkYard x = manySections();
        Check.is("the first", 0, x.like(0));
        Check.is("the last", 95, x.like(95));
    }

    /** Promise 16: NONE if it isn't reached. */
    private static void likeIfNotReached() {
        LinkYard x = linked();
        Check.is("not reached", NONE, x.like(2));
        x.fold(true, true);
        x.link(0);
        Check.is("not reached, with folding", NONE, x.like(2));
        Check.is("ZERO", 1, x.like(1));
    }

    /** Two TEXT sections without words of their own, and a DATA section that reaches them. */
    private static LinkYard twins() {
        LinkYard x = yard(NONE);
        x.section(0, TEXT, 8, 4);
        x.section(0, TEXT, 8, 4);
        kept(x, DATA, 8, 4);
        for (int s = 0; s < 2; s++) {
            x.word(s, 0, 11);
            x.relocation(2, 4 * s, WORD, x.symbol(s, 8, s, LOCAL), 0);
        }
        x.fold(true, false);
        x.link(4096);
        return x;
    }

    /** Promise 16: The section into which one is folded. */
    private static void likeOfFoldedOnes() {
        LinkYard x = twins();
        Check.is("the first one", 0, x.like(0));
        Check.is("the other one", 0, x.like(1));
        Check.is("DATA", 2, x.like(2));
    }

    /** Promise 17: IllegalArgumentException if there is no such symbol. */
    private static void meansOfNone() {
        for (int what = 0; what < 3; what++) {
            int w = what;
            wrong("means of symbol", (x, symbol) -> x.means(symbol, w), 3, 4, 399, 400);
        }
        refusesEach("means without symbols", WRONG, EdgeAskTest::linkedEmpty,
                (x, symbol) -> x.means(symbol, 0), -1, 0);
    }

    /** Promise 17: .. or what. */
    private static void meansOfAnotherWhat() {
        for (int symbol = 0; symbol < 3; symbol++) {
            int s = symbol;
            wrong("means, what", (x, what) -> x.means(s, what), 3, 4);
        }
    }

    private static void means(String what, LinkYard x, int symbol, int kind, int section, int v) {
        Check.is(what + ": kind", kind, x.means(symbol, 0));
        Check.is(what + ": section", section, x.means(symbol, 1));
        Check.is(what + ": address or number", v, x.means(symbol, 2));
    }

    /** Promise 17: Of a symbol: the first and the last of 400. */
    private static void meansOfAll() {
        LinkYard x = yard(NONE);
        for (int s = 0; s < 400; s++) {
            x.other(0, ABSOLUTE, s - 200, s % 200, LOCAL);
        }
        x.link(0);
        means("the first", x, 0, 2, NONE, -200);
        means("the last", x, 399, 2, NONE, 199);
        Check.refuses("symbol 400", WRONG, () -> x.means(400, 0));
    }

    /** Promise 17: NONE if its unit isn't in. */
    private static void meansIfItsUnitIsNotIn() {
        LinkYard x = yard(NONE, 0);
        x.section(1, TEXT, 8, 4);
        x.keep(0, true);
        x.symbol(0, 8, 0, GLOBAL);
        x.symbol(0, 8, 1, LOCAL);
        x.other(1, ABSOLUTE, 7, 2, WEAK);
        x.other(1, SIZED, 8, 3, COMMON);
        x.other(1, UNDEFINED, 0, 4, WEAK);
        x.other(0, ABSOLUTE, 9, 4, GLOBAL);
        x.link(4096);
        for (int s = 0; s < 5; s++) {
            means("symbol " + s, x, s, NONE, NONE, 0);
        }
        means("of the unit that is in", x, 5, 2, NONE, 9);
    }

    /** Promise 17: 1 a section's place .. 0 of what isn't reached; its end is a place too. */
    private static void meansASection() {
        LinkYard x = yard(NONE);
        kept(x, DATA, 8192, 4);
        x.section(0, ZERO, 8, 4);
        x.symbol(0, 0, 0, LOCAL);
        x.symbol(0, 8192, 199, GLOBAL);
        x.symbol(1, 8, 1, WEAK);
        x.link(1048576);
        means("the beginning", x, 0, 1, 0, 1048576);
        means("the end", x, 1, 1, 0, 1056768);
        means("not reached", x, 2, 1, 1, 0);
        x.link(0);
        means("address 0", x, 0, 1, 0, 0);
        LinkYard y = twins();
        means("of a folded one", y, 1, 1, 1, 4104);
    }

    /** Promise 17: 2 a number. */
    private static void meansANumber() {
        for (int number : new int[] {LEAST, -1, 0, 1, GREATEST}) {
            LinkYard x = yard(NONE, NONE);
            x.other(0, ABSOLUTE, number, 0, GLOBAL);
            x.other(1, UNDEFINED, 5, 0, GLOBAL);
            x.other(0, UNDEFINED, number, 1, WEAK);
            x.link(4096);
            means("ABSOLUTE", x, 0, 2, NONE, number);
            means("by its name", x, 1, 2, NONE, number);
            means("UNDEFINED WEAK", x, 2, 2, NONE, 0);
        }
    }

    /** Promise 17: 3 a common place .. 0 of what isn't reached. */
    private static void meansACommonPlace() {
        LinkYard x = yard(NONE);
        kept(x, DATA, 4, 4);
        x.other(0, SIZED, 8192, 199, COMMON);
        x.other(0, SIZED, 4, 0, COMMON);
        x.relocation(0, 0, WORD, 0, 0);
        x.link(4096);
        means("reached", x, 0, 3, NONE, 4100);
        means("not reached", x, 1, 3, NONE, 0);
    }

    /** Promise 17: 0 nothing: UNDEFINED, not WEAK, without definition. */
    private static void meansNothing() {
        LinkYard x = yard(NONE, 0);
        x.other(0, UNDEFINED, 5, 0, GLOBAL);
        x.other(1, ABSOLUTE, 5, 0, WEAK);
        x.link(4096);
        means("UNDEFINED", x, 0, 0, NONE, 0);
    }

    /** Promise 18: IllegalArgumentException if there is no such name. */
    private static void commonOfNoName() {
        wrong("common", LinkYard::common, 200, 201);
        refusesEach("common of an empty object", WRONG, EdgeAskTest::linkedEmpty,
                LinkYard::common, -1, 200);
    }

    /** Promise 18: NONE if there is none that is reached. */
    private static void commonOfNone() {
        LinkYard x = linkedEmpty();
        Check.is("the least name of an empty object", NONE, x.common(0));
        Check.is("the greatest name", NONE, x.common(199));
        LinkYard y = linked();
        Check.is("not reached", NONE, y.common(3));
        Check.is("a section's place", NONE, y.common(1));
        LinkYard z = yard(NONE, NONE);
        kept(z, DATA, 4, 4);
        z.relocation(0, 0, WORD, z.other(0, SIZED, 4, 0, COMMON), 0);
        z.other(1, ABSOLUTE, 6, 0, GLOBAL);
        z.link(0);
        Check.is("a GLOBAL one is its definition", NONE, z.common(0));
        Check.is("which the relocation means", 6, z.at(0));
    }

    /** Promise 18: The address of the common place of a name: of the least and the greatest. */
    private static void commonOfAll() {
        LinkYard x = yard(NONE);
        kept(x, DATA, 8, 4);
        x.relocation(0, 0, WORD, x.other(0, SIZED, 8192, 0, COMMON), 0);
        x.relocation(0, 4, WORD, x.other(0, SIZED, 4, 199, COMMON), 0);
        x.link(1048576);
        Check.is("name 0", 1048584, x.common(0));
        Check.is("name 199", 1056776, x.common(199));
    }

    /** Promise 19: IndexOutOfBoundsException if it is .. not from BASE to below the end. */
    private static void atBelowTheBase() {
        outside("below BASE", EdgeAskTest::linked, 8188, 8184, 4096, 0, -4, -8192, LEAST);
        Check.is("at BASE", 77, linked().at(8192));
        LinkYard x = linked();
        x.link(0);
        Check.is("at BASE 0", 77, x.at(0));
        Check.refuses("below 0", OUTSIDE, () -> x.at(-4));
    }

    private static void outside(String what, Supplier<LinkYard> maker, int... addresses) {
        refusesEach(what, OUTSIDE, maker, LinkYard::at, addresses);
    }

    /** Promise 19: .. not from BASE to below the end. */
    private static void atTheEnd() {
        outside("from the end on", EdgeAskTest::linked, 8208, 8212, 12288, 1 << 30, GREATEST - 3);
        Check.is("below the end", 0, linked().at(8204));
        LinkYard x = manySections();
        x.word(95, 0, 5);
        x.link(1048576);
        Check.is("the last word", 5, x.at(1048576 + 380));
        Check.refuses("the end", OUTSIDE, () -> x.at(1048576 + 384));
    }

    /** Promise 19: IndexOutOfBoundsException if it is no multiple of 4. */
    private static void atNoMultiple() {
        outside("no multiple of 4", EdgeAskTest::linked, 8193, 8194, 8195, 8197, 8203, 8206, 8207,
                8191, 8209, -1, -2, -3, GREATEST, LEAST + 1);
    }

    /** Promise 19: from BASE to below the end: of nothing there is no word. */
    private static void atOfNothing() {
        outside("of nothing", EdgeAskTest::linkedEmpty, 8192, 8188, 8196, 0);
    }

    /** Promise 19: 0 in ZERO sections, common places. */
    private static void atZeroOnes() {
        LinkYard x = yard(NONE);
        kept(x, DATA, 4, 4);
        x.word(0, 0, -1);
        kept(x, ZERO, 8, 4);
        kept(x, DATA, 4, 4);
        x.word(2, 0, -1);
        x.relocation(0, 0, LOW, x.other(0, SIZED, 8, 0, COMMON), 0);
        x.link(0);
        int[] due = {0xFFFF0010, -1, 0, 0, 0, 0};
        for (int i = 0; i < due.length; i++) {
            Check.is("at " + 4 * i, due[i], x.at(4 * i));
        }
    }

    /** Promise 19: 0 in .. gaps. */
    private static void atGaps() {
        LinkYard x = yard(NONE);
        for (int s = 0; s < 2; s++) {
            kept(x, TEXT, 4, 64);
            x.word(s, 0, -1);
        }
        kept(x, DATA, 4, 4096);
        x.word(2, 0, -1);
        x.relocation(1, 0, NEAR, x.other(0, ABSOLUTE, -1, 0, LOCAL), 0);
        Check.is("bytes", 4100, x.link(0));
        for (int address = 0; address < 4100; address += address < 128 ? 4 : 124) {
            int due = address == 0 || address == 68 || address == 4096 ? -1
                    : address == 64 ? 0xFFFF0000 : 0;
            Check.is("at " + address, due, x.at(address));
        }
        Check.is("the last of the gap", 0, x.at(4092));
        Check.is("behind the gap", -1, x.at(4096));
    }

    /** Promise 19: The word at an address: an empty section there has none. */
    private static void atEmptyOnes() {
        LinkYard x = yard(NONE);
        kept(x, TEXT, 0, 4);
        kept(x, TEXT, 4, 4);
        kept(x, TEXT, 0, 4);
        kept(x, DATA, 0, 4);
        kept(x, DATA, 4, 4);
        kept(x, ZERO, 0, 4);
        x.word(1, 0, 5);
        x.word(4, 0, 6);
        Check.is("bytes", 8, x.link(4096));
        Check.is("TEXT", 5, x.at(4096));
        Check.is("DATA", 6, x.at(4100));
        Check.refuses("the empty one at the end", OUTSIDE, () -> x.at(4104));
    }

    /** Promise 19: The word at an address: of folded ones there is but one. */
    private static void atFoldedOnes() {
        LinkYard x = twins();
        int[] due = {11, 0, 4104, 4104};
        for (int i = 0; i < due.length; i++) {
            Check.is("word " + i, due[i], x.at(4096 + 4 * i));
        }
        Check.refuses("the end", OUTSIDE, () -> x.at(4112));
    }

    /** Promise 20: IllegalArgumentException for another what. */
    private static void aboutAnotherWhat() {
        wrong("about", LinkYard::about, 8, 9);
        refusesEach("about an empty object", WRONG, EdgeAskTest::linkedEmpty, LinkYard::about, -1,
                8);
    }

    /** Promise 20: of an empty object, and of one in which nothing is reached. */
    private static void aboutNothing() {
        isAbout("empty", linkedEmpty(), 0, 0, 0, 0, NONE, 0, 8192, 1);
        LinkYard x = yard(NONE, NONE, 0);
        x.section(0, TEXT, 8, 4);
        x.section(1, TEXT, 8, 4);
        x.fold(true, true);
        x.link(0);
        isAbout("nothing is reached", x, 2, 0, 0, 0, NONE, 0, 0, 1);
    }

    /** Promise 20: each of them, where all are other than 0. */
    private static void aboutAll() {
        LinkYard x = twins();
        x.unit(NONE);
        x.unit(0);
        x.other(0, ABSOLUTE, 1 << 30, 9, LOCAL);
        x.section(0, TEXT, 4, 16);
        x.keep(3, true);
        for (int i = 0; i < 3; i++) {
            x.relocation(3, 0, NEAR, 2, i % 2);
        }
        Check.is("bytes", 44, x.link(4096));
        isAbout("all", x, 2, 4, 1, 2, 4116, 3, 4140, 4);
    }
}
