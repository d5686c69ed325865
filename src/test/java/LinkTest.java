/** Promises 12 and 13 and the steps of a link: what comes in, is defined, reached, laid, mended. */
public final class LinkTest {
    private static final Class<IllegalArgumentException> WRONG = IllegalArgumentException.class;
    private static final int NONE = LinkYard.NONE;
    private static final int TEXT = 0, DATA = 1, ZERO = 2;
    private static final int LOCAL = 0, GLOBAL = 1, WEAK = 2, COMMON = 3;
    private static final int UNDEFINED = 0, ABSOLUTE = 1, COMMON_SORT = 2;
    private static final int WORD = 0, RELATIVE = 1, HIGH = 2, LOW = 3, NEAR = 4, JUMP = 5;

    public static void main(String[] args) {
        bases();
        layout();
        emptySections();
        members();
        memberOrder();
        neededByEntry();
        grouping();
        twice();
        definitions();
        weakByUnits();
        commons();
        missingEntry();
        missingRelocation();
        reaching();
        mending();
        mendingInOrder();
        misplacedJump();
        faultOrder();
        wrongWhat();
        Check.end();
    }

    private static LinkYard yard(int... archives) {
        LinkYard x = new LinkYard();
        for (int archive : archives) {
            x.unit(archive);
        }
        return x;
    }

    private static void fault(String what, LinkYard x, int kind, int name, int relocation) {
        Check.is(what + ": link", NONE, x.link(0));
        Check.is(what + ": kind", kind, x.fault(0));
        Check.is(what + ": name", name, x.fault(1));
        Check.is(what + ": relocation", relocation, x.fault(2));
        Check.refuses(what + ": nothing linked", IllegalStateException.class, () -> x.about(0));
    }

    private static void bases() {
        LinkYard x = yard(NONE);
        x.section(0, DATA, 12, 8);
        x.keep(0, true);
        for (int base : new int[] {-4096, -1, 1, 4, 2048, 4095, 1048580, 1052672,
            Integer.MIN_VALUE, Integer.MAX_VALUE}) {
            Check.refuses("base " + base, WRONG, () -> x.link(base));
        }
        for (int base : new int[] {0, 4096, 1048576}) {
            Check.is("link " + base, 12, x.link(base));
            Check.is("end", base + 12, x.about(6));
            Check.is("no fault", 0, x.fault(0));
            Check.is("no name", NONE, x.fault(1));
            Check.is("no relocation", NONE, x.fault(2));
        }
    }

    private static void layout() {
        LinkYard x = yard(NONE);
        x.section(0, ZERO, 4, 4);      // 0
        x.section(0, DATA, 4, 64);     // 1
        x.section(0, TEXT, 12, 4);     // 2
        x.section(0, DATA, 8, 4);      // 3
        x.section(0, TEXT, 4, 16);     // 4
        x.section(0, TEXT, 4, 4);      // 5: not reached
        x.other(0, COMMON_SORT, 8, 50, COMMON);
        x.other(0, COMMON_SORT, 12, 40, COMMON);
        x.relocation(2, 0, WORD, 0, 0);
        x.relocation(2, 4, WORD, 1, 0);
        for (int s = 0; s < 5; s++) {
            x.keep(s, true);
        }
        Check.is("bytes", 100, x.link(4096));
        Check.is("first TEXT", 4096, x.address(2));
        Check.is("second TEXT, aligned", 4112, x.address(4));
        Check.is("first DATA, aligned", 4160, x.address(1));
        Check.is("second DATA", 4164, x.address(3));
        Check.is("ZERO", 4172, x.address(0));
        Check.is("common of the lesser name", 4176, x.common(40));
        Check.is("common of the greater name", 4188, x.common(50));
        Check.is("end", 4196, x.about(6));
        Check.is("not reached", NONE, x.address(5));
    }

    private static void emptySections() {
        LinkYard x = yard(NONE);
        x.section(0, TEXT, 4, 4);
        x.section(0, TEXT, 0, 32);
        x.section(0, TEXT, 4, 4);
        x.section(0, ZERO, 0, 4096);
        for (int s = 0; s < 4; s++) {
            x.keep(s, true);
        }
        Check.is("an empty one has an end too", 4096, x.link(0));
        Check.is("empty", 32, x.address(1));
        Check.is("behind an empty one", 32, x.address(2));
        Check.is("empty and last", 4096, x.address(3));
    }

    private static void members() {
        LinkYard x = yard(0, NONE, 0, 0, 0, 0, 0);
        x.other(1, UNDEFINED, 0, 1, GLOBAL);
        x.other(1, UNDEFINED, 0, 2, WEAK);
        x.other(1, UNDEFINED, 0, 3, GLOBAL);
        x.other(0, ABSOLUTE, 0, 1, WEAK);        // WEAK brings none in
        x.other(2, ABSOLUTE, 0, 2, GLOBAL);      // a WEAK one asks for none
        x.other(3, COMMON_SORT, 4, 1, COMMON);   // COMMON does
        x.other(4, ABSOLUTE, 0, 1, GLOBAL);      // too late
        x.other(5, ABSOLUTE, 0, 3, LOCAL);       // LOCAL does not
        x.other(6, UNDEFINED, 0, 3, GLOBAL);     // nor does UNDEFINED
        x.link(0);
        boolean[] due = {false, true, false, true, false, false, false};
        for (int u = 0; u < due.length; u++) {
            Check.is("unit " + u + " is in", due[u], x.isIn(u));
        }
        Check.is("how many", 2, x.about(0));
    }

    private static void memberOrder() {
        // A name that a unit that is in has as WEAK or COMMON is not needed.
        LinkYard x = yard(NONE, 0, 0);
        x.other(0, ABSOLUTE, 0, 1, WEAK);
        x.other(0, COMMON_SORT, 4, 2, COMMON);
        x.other(1, UNDEFINED, 0, 1, GLOBAL);
        x.other(1, ABSOLUTE, 0, 3, GLOBAL);
        x.other(2, ABSOLUTE, 0, 1, GLOBAL);
        x.other(2, ABSOLUTE, 0, 2, GLOBAL);
        x.entry(3);
        x.link(0);
        Check.is("brought in by the entry", true, x.isIn(1));
        Check.is("not needed", false, x.isIn(2));
        // An earlier member of the same archive is looked at again.
        LinkYard y = yard(2, 2, 2, NONE);
        y.other(0, ABSOLUTE, 0, 1, GLOBAL);
        y.other(1, UNDEFINED, 0, 1, GLOBAL);
        y.other(1, ABSOLUTE, 0, 2, GLOBAL);
        y.other(2, ABSOLUTE, 0, 2, GLOBAL);
        y.other(3, UNDEFINED, 0, 2, GLOBAL);
        y.link(0);
        Check.is("again and again", true, y.isIn(0));
        Check.is("the first one", true, y.isIn(1));
        Check.is("not the second one", false, y.isIn(2));
    }

    private static void neededByEntry() {
        LinkYard x = yard(3);
        x.section(0, TEXT, 4, 4);
        x.symbol(0, 0, 0, GLOBAL);
        Check.is("without an entry", 0, x.link(0));
        Check.is("not in", false, x.isIn(0));
        x.entry(0);
        Check.is("with one", 4, x.link(0));
        Check.is("in", true, x.isIn(0));
    }

    private static void grouping() {
        // 1 of archive 3 asks for 2 of archive 1, that for 3 of archive 0, that for 4 of 3.
        LinkYard x = yard(NONE, 3, 1, 0, 3);
        x.other(0, UNDEFINED, 0, 0, GLOBAL);
        for (int u = 1; u <= 4; u++) {
            x.other(u, ABSOLUTE, 0, u - 1, GLOBAL);
            x.other(u, UNDEFINED, 0, u, GLOBAL);
        }
        x.link(0);
        Check.is("gone through once", 2, x.about(0));
        x.fold(false, true);
        x.link(0);
        Check.is("gone through again and again", 5, x.about(0));
    }

    private static void twice() {
        LinkYard x = yard(NONE, NONE, NONE, 0);
        x.other(0, ABSOLUTE, 0, 9, GLOBAL);
        x.other(0, ABSOLUTE, 0, 8, GLOBAL);
        x.other(1, ABSOLUTE, 0, 8, WEAK);
        x.other(1, COMMON_SORT, 4, 9, COMMON);
        x.other(2, ABSOLUTE, 0, 8, LOCAL);
        x.other(2, UNDEFINED, 0, 8, GLOBAL);
        x.other(3, ABSOLUTE, 0, 8, GLOBAL);
        Check.is("once each, of units that are in", 0, x.link(0));
        x.unit(NONE);
        x.other(4, ABSOLUTE, 0, 9, GLOBAL);
        fault("twice", x, 1, 9, NONE);
        x.other(4, ABSOLUTE, 0, 8, GLOBAL);
        fault("the least name", x, 1, 8, NONE);
    }

    private static void definitions() {
        LinkYard x = yard(NONE, NONE, NONE);
        int weak = x.other(0, ABSOLUTE, 1, 5, WEAK);
        int common = x.other(1, COMMON_SORT, 8, 5, COMMON);
        x.link(0);
        Check.is("COMMON ahead of WEAK", 3, x.means(weak, 0));
        int global = x.other(2, ABSOLUTE, 3, 5, GLOBAL);
        int local = x.other(0, ABSOLUTE, 4, 5, LOCAL);
        int nought = x.other(0, UNDEFINED, 9, 6, WEAK);
        int nothing = x.other(1, UNDEFINED, 9, 6, GLOBAL);
        x.link(0);
        for (int s : new int[] {weak, common, global}) {
            Check.is("GLOBAL ahead of all", 2, x.means(s, 0));
            Check.is("its number", 3, x.means(s, 2));
        }
        Check.is("LOCAL itself", 4, x.means(local, 2));
        Check.is("UNDEFINED WEAK", 2, x.means(nought, 0));
        Check.is("its number", 0, x.means(nought, 2));
        Check.is("UNDEFINED GLOBAL that nothing reaches", 0, x.means(nothing, 0));
        Check.is("its number", 0, x.means(nothing, 2));
        Check.is("no common place then", NONE, x.common(5));
    }

    private static void weakByUnits() {
        LinkYard x = yard(0, NONE, NONE);
        x.other(2, ABSOLUTE, 22, 5, WEAK);
        x.other(1, ABSOLUTE, 11, 5, WEAK);
        x.other(0, ABSOLUTE, 10, 5, WEAK);
        x.link(0);
        Check.is("the first unit that is in", 11, x.means(0, 2));
    }

    private static void commons() {
        LinkYard x = yard(NONE, NONE, 1, NONE);
        x.section(0, DATA, 4, 4);
        x.section(3, DATA, 4, 4);
        int asks = x.other(0, UNDEFINED, 0, 5, GLOBAL);
        x.other(1, COMMON_SORT, 20, 5, COMMON);
        x.other(2, COMMON_SORT, 40, 5, COMMON);
        x.other(3, COMMON_SORT, 12, 5, COMMON);
        x.other(1, COMMON_SORT, 4, 3, COMMON);
        x.keep(0, true);
        x.keep(1, true);
        Check.is("not reached", 8, x.link(0));
        Check.is("no address", NONE, x.common(5));
        Check.is("means it all the same", 3, x.means(asks, 0));
        Check.is("without an address", 0, x.means(asks, 2));
        x.relocation(0, 0, WORD, asks, 2);
        Check.is("the greatest size of units that are in", 28, x.link(0));
        Check.is("its address", 8, x.common(5));
        Check.is("of the symbol", 8, x.means(asks, 2));
        Check.is("of the word", 10, x.at(0));
        Check.is("another that is not reached", NONE, x.common(3));
        x.entry(3);
        Check.is("an entry reaches no common place", 28, x.link(0));
    }

    private static void missingEntry() {
        LinkYard x = yard(NONE, 0);
        x.section(0, TEXT, 4, 4);
        x.other(0, UNDEFINED, 0, 1, GLOBAL);
        x.other(1, ABSOLUTE, 0, 2, WEAK);
        x.other(0, UNDEFINED, 0, 3, WEAK);
        x.symbol(0, 0, 4, LOCAL);
        x.relocation(0, 0, WORD, 0, 0);
        x.keep(0, true);
        for (int name = 1; name <= 4; name++) {
            x.entry(name);
            fault("entry " + name + " ahead of the relocation", x, 2, name, NONE);
        }
        x.keep(0, false);
        x.other(0, ABSOLUTE, 0, 5, WEAK);
        x.entry(5);
        Check.is("an entry that is no section's", 0, x.link(0));
    }

    private static void missingRelocation() {
        LinkYard x = yard(NONE, NONE);
        x.section(0, TEXT, 8, 4);
        x.section(1, DATA, 8, 4);
        x.section(1, DATA, 8, 4);
        int mine = x.other(0, UNDEFINED, 0, 7, GLOBAL);
        int weak = x.other(0, UNDEFINED, 0, 8, WEAK);
        int its = x.other(1, UNDEFINED, 0, 6, GLOBAL);
        x.relocation(2, 0, WORD, its, 0);
        x.relocation(1, 4, WORD, its, 0);
        x.relocation(1, 0, WORD, its, 0);
        x.relocation(0, 0, WORD, weak, 5);
        x.keep(0, true);
        Check.is("what is not reached may miss", 8, x.link(0));
        Check.is("WEAK is 0", 5, x.at(0));
        x.keep(2, true);
        fault("missing", x, 2, 6, 0);
        x.keep(1, true);
        fault("by sections, then relocations", x, 2, 6, 1);
        x.relocation(0, 4, JUMP, mine, 1);
        fault("an earlier section", x, 2, 7, 4);
    }

    private static void reaching() {
        LinkYard x = yard(NONE, NONE, 2);
        for (int i = 0; i < 6; i++) {
            x.section(i < 3 ? 0 : 1, i % 3, 4, 4);
        }
        x.section(2, DATA, 4, 4);
        x.symbol(0, 0, 1, WEAK);
        int toThree = x.other(0, UNDEFINED, 0, 2, WEAK);
        x.symbol(3, 4, 2, GLOBAL);
        int toFive = x.symbol(5, 0, 3, LOCAL);
        x.relocation(0, 0, LOW, toThree, 0);
        x.relocation(3, 0, LOW, toFive, 0);
        x.relocation(4, 0, LOW, x.symbol(4, 0, 9, LOCAL), 0);
        x.keep(6, true);
        x.entry(1);
        Check.is("bytes", 12, x.link(0));
        boolean[] due = {true, false, false, true, false, true, false};
        for (int s = 0; s < due.length; s++) {
            Check.is("section " + s, due[s], x.address(s) != NONE);
        }
        Check.is("how many", 3, x.about(1));
    }

    private static LinkYard mender(int sort, int word, int number, int addend) {
        LinkYard x = yard(NONE);
        x.section(0, DATA, 12, 4);
        x.word(0, 8, word);
        x.other(0, ABSOLUTE, number, 0, LOCAL);
        x.relocation(0, 8, sort, 0, addend);
        x.keep(0, true);
        x.link(4096);
        return x;
    }

    private static void mended(String what, int due, int sort, int word, int number, int addend) {
        Check.is(what, due, mender(sort, word, number, addend).at(4104));
    }

    private static void mending() {
        mended("WORD", 1111, WORD, 1, 10, 1100);
        mended("WORD wraps", Integer.MIN_VALUE + 4, WORD, Integer.MAX_VALUE, 3, 2);
        mended("RELATIVE", 1111 - 4104, RELATIVE, 1, 10, 1100);
        mended("RELATIVE wraps", Integer.MAX_VALUE - 4102, RELATIVE, 0, Integer.MIN_VALUE, 1);
        mended("HIGH", 0x12340002, HIGH, 0x12345678, 0x00018000, 0);
        mended("HIGH below half", 0x12340001, HIGH, 0x12345678, 0x00017000, 0xFFF);
        mended("HIGH without a sign", 0xFFFF8000, HIGH, -1, 0x80000000, 0);
        mended("HIGH wraps", 0, HIGH, 5, -1, 0);
        mended("LOW", 0x12349ABE, LOW, 0x12345678, 0x00009ABC, 2);
        mended("LOW of a negative word", 0xFFFF0001, LOW, -1, 0x7FFF0000, 1);
        mended("NEAR on", 0x12340002, NEAR, 0x12345678, 4108, 8);
        mended("NEAR back", 0x1234FFFF, NEAR, 0x12345678, 4104, 0);
        mended("NEAR farthest on", 0x7FFF, NEAR, 0, 4108 + 131068, 0);
        mended("NEAR farthest back", 0x8000, NEAR, 0, 4108 - 131072, 0);
        mended("JUMP", 0xFC000000 | 1027, JUMP, -1, 4100, 8);
        mended("JUMP without a sign", 0x08000000 | 0x03FFFFFF, JUMP, 0x0BADBEEF, -4, 0);
        mended("JUMP's upper bits are lost", 1, JUMP, 0, 0x70000004, 0);
    }

    private static void mendingInOrder() {
        LinkYard x = yard(NONE);
        x.section(0, TEXT, 8, 4);
        x.word(0, 4, 0x00010000);
        x.other(0, ABSOLUTE, 0x1FFFF, 0, LOCAL);
        x.relocation(0, 4, WORD, 0, 0);
        x.relocation(0, 4, LOW, 0, 0x13);
        x.relocation(0, 4, WORD, 0, 0);
        x.keep(0, true);
        x.link(0);
        Check.is("in order", 0x20012 + 0x1FFFF, x.at(4));
        x.link(4096);
        Check.is("a second link starts from what was told", 0x20012 + 0x1FFFF, x.at(4100));
    }

    private static void misplacedJump() {
        LinkYard x = yard(NONE);
        x.section(0, DATA, 8, 4);
        x.section(0, TEXT, 8, 4);
        x.section(0, TEXT, 8, 4);
        x.symbol(1, 2, 0, LOCAL);
        x.relocation(1, 0, JUMP, 0, 4);
        x.relocation(0, 4, JUMP, 0, -1);
        x.relocation(0, 0, JUMP, 0, -1);
        x.relocation(0, 0, JUMP, 0, 2);
        x.relocation(2, 0, JUMP, 0, 0);
        x.keep(1, true);
        fault("misplaced", x, 5, NONE, 0);
        x.keep(0, true);
        fault("by sections, then relocations", x, 5, NONE, 1);
    }

    private static void faultOrder() {
        LinkYard x = yard(NONE, NONE);
        x.section(0, TEXT, 8, 4);
        x.section(0, DATA, 8, 4);
        x.other(0, ABSOLUTE, 1, 0, GLOBAL);
        x.relocation(0, 0, JUMP, 0, 0);
        x.keep(0, true);
        x.keep(1, true);
        fault("PLACE", x, 5, NONE, 0);
        x.relocation(1, 0, NEAR, 0, 0);
        fault("FAR ahead of PLACE", x, 3, NONE, 1);
        x.relocation(1, 4, WORD, x.other(0, UNDEFINED, 0, 4, GLOBAL), 0);
        fault("MISSING ahead of FAR", x, 2, 4, 2);
        x.entry(9);
        fault("the entry ahead of relocations", x, 2, 9, NONE);
        x.other(1, ABSOLUTE, 0, 0, GLOBAL);
        fault("TWICE ahead of MISSING", x, 1, 0, NONE);
    }

    private static void wrongWhat() {
        LinkYard x = yard();
        Check.refuses("fault -1", WRONG, () -> x.fault(-1));
        Check.refuses("fault 3", WRONG, () -> x.fault(3));
        x.link(0);
        Check.refuses("fault 3 of a link", WRONG, () -> x.fault(3));
    }
}
