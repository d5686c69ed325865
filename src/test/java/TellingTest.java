/** Promises 1 to 11: a new object, and all that is told. */
public final class TellingTest {
    private static final Class<IllegalArgumentException> WRONG = IllegalArgumentException.class;
    private static final Class<UnsupportedOperationException> FULL =
            UnsupportedOperationException.class;
    private static final Class<IllegalStateException> UNLINKED = IllegalStateException.class;
    private static final int NONE = LinkYard.NONE;

    public static void main(String[] args) {
        newObject();
        units();
        sections();
        sectionLimits();
        words();
        symbols();
        others();
        symbolLimits();
        relocations();
        entries();
        keeping();
        folding();
        clearing();
        tellingTakesTheLinkAway();
        throwingChangesNothing();
        Check.end();
    }

    private static LinkYard yardOf(int units) {
        LinkYard x = new LinkYard();
        for (int i = 0; i < units; i++) {
            x.unit(NONE);
        }
        return x;
    }

    private static void newObject() {
        isAsAtFirst("new", new LinkYard());
    }

    /** Nothing but calls that a yard with no units, entry, folding, grouping and link answers so. */
    private static void isAsAtFirst(String when, LinkYard x) {
        Check.is(when + ": fault kind", 0, x.fault(0));
        Check.is(when + ": fault name", NONE, x.fault(1));
        Check.is(when + ": fault relocation", NONE, x.fault(2));
        Check.refuses(when + ": nothing linked", UNLINKED, () -> x.about(0));
        Check.is(when + ": no entry that is missing", 0, x.link(0));
        Check.is(when + ": no units in", 0, x.about(0));
        Check.refuses(when + ": no unit", WRONG, () -> x.isIn(0));
        Check.refuses(when + ": no section", WRONG, () -> x.address(0));
        Check.refuses(when + ": no symbol", WRONG, () -> x.means(0, 0));
        notFoldedNotGrouped(when, x);
    }

    private static void notFoldedNotGrouped(String when, LinkYard x) {
        Check.is(when + ": first unit", 0, x.unit(NONE));
        Check.is(when + ": second unit", 1, x.unit(0));
        Check.is(when + ": third unit", 2, x.unit(1));
        Check.is(when + ": first section", 0, x.section(0, 0, 4, 4));
        Check.is(when + ": second section", 1, x.section(0, 0, 4, 4));
        Check.is(when + ": third section", 2, x.section(0, 1, 8, 4));
        Check.is(when + ": first symbol", 0, x.symbol(0, 0, 1, 0));
        Check.is(when + ": second symbol", 1, x.symbol(1, 0, 2, 0));
        // Unit 2 comes in for name 5 and asks for name 6, which only archive 0 has.
        x.other(0, 0, 0, 5, 1);
        x.other(1, 1, 60, 6, 1);
        x.other(2, 1, 50, 5, 1);
        x.other(2, 0, 0, 6, 1);
        Check.is(when + ": first relocation", 0, x.relocation(2, 0, 0, 0, 0));
        Check.is(when + ": second relocation", 1, x.relocation(2, 4, 0, 1, 0));
        x.keep(2, true);
        Check.is(when + ": bytes, not folded", 16, x.link(0));
        Check.is(when + ": words are 0 at first", 0, x.at(0));
        Check.is(when + ": like itself", 1, x.like(1));
        Check.is(when + ": not grouped", false, x.isIn(1));
        Check.is(when + ": archive 1 gone through", true, x.isIn(2));
    }

    private static void units() {
        LinkYard x = new LinkYard();
        Check.refuses("archive -2", WRONG, () -> x.unit(-2));
        Check.refuses("archive 4", WRONG, () -> x.unit(4));
        Check.refuses("archive least", WRONG, () -> x.unit(Integer.MIN_VALUE));
        for (int i = 0; i < 24; i++) {
            Check.is("unit", i, x.unit(i % 5 - 1));
        }
        Check.refuses("25th unit", FULL, () -> x.unit(NONE));
        Check.refuses("25th unit of no archive", WRONG, () -> x.unit(4));
        x.link(0);
        Check.is("loose ones are in", 5, x.about(0));
    }

    private static void sections() {
        LinkYard x = yardOf(2);
        int[][] wrong = {
            {-1, 0, 4, 4}, {2, 0, 4, 4}, {0, -1, 4, 4}, {0, 3, 4, 4}, {0, 0, -4, 4}, {0, 0, 2, 4},
            {0, 0, 8196, 4}, {0, 0, 4, 0}, {0, 0, 4, 2}, {0, 0, 4, 12}, {0, 0, 4, 8192},
            {0, 0, 4, -4}, {0, 0, 4, Integer.MIN_VALUE}, {0, 0, 4, 1}, {0, 2, 8193, 4},
        };
        for (int[] w : wrong) {
            Check.refuses("section " + java.util.Arrays.toString(w), WRONG,
                    () -> x.section(w[0], w[1], w[2], w[3]));
        }
        Check.is("empty", 0, x.section(0, 0, 0, 4));
        Check.is("greatest", 1, x.section(1, 1, 8192, 4096));
        Check.is("zero", 2, x.section(1, 2, 4, 8));
    }

    private static void sectionLimits() {
        LinkYard x = yardOf(1);
        for (int i = 0; i < 96; i++) {
            Check.is("section", i, x.section(0, i % 3, 4, 4));
        }
        Check.refuses("97th section", FULL, () -> x.section(0, 0, 0, 4));
        Check.refuses("97th section of no kind", WRONG, () -> x.section(0, 3, 0, 4));
        LinkYard y = yardOf(1);
        for (int i = 0; i < 48; i++) {
            y.section(0, i % 3, 8192, 4);
        }
        Check.refuses("400004 bytes, those of ZERO ones too", FULL, () -> y.section(0, 2, 6788, 4));
        Check.is("400000 bytes", 48, y.section(0, 1, 6784, 4));
        Check.refuses("4 bytes more", FULL, () -> y.section(0, 0, 4, 4));
        Check.is("no bytes more", 49, y.section(0, 0, 0, 4));
        y.word(48, 6780, 77);
        y.keep(48, true);
        y.link(0);
        Check.is("the last word", 77, y.at(6780));
    }

    private static void words() {
        LinkYard x = yardOf(1);
        x.section(0, 0, 8, 4);
        x.section(0, 2, 8, 4);
        x.section(0, 1, 0, 4);
        int[][] wrong = {{-1, 0}, {3, 0}, {1, 0}, {0, -4}, {0, 8}, {0, 2}, {2, 0}, {0, 5}};
        for (int[] w : wrong) {
            Check.refuses("word " + w[0] + " " + w[1], WRONG, () -> x.word(w[0], w[1], 1));
        }
        x.word(0, 0, 5);
        x.word(0, 4, -6);
        x.word(0, 0, 7);
        x.keep(0, true);
        x.link(8192);
        Check.is("told twice", 7, x.at(8192));
        Check.is("told once", -6, x.at(8196));
    }

    private static void symbols() {
        LinkYard x = yardOf(2);
        x.section(0, 0, 8, 4);
        x.section(1, 2, 8, 4);
        int[][] wrong = {
            {-1, 0, 0, 1}, {2, 0, 0, 1}, {0, -1, 0, 1}, {0, 9, 0, 1}, {0, 0, -1, 1},
            {0, 0, 200, 1}, {0, 0, 0, -1}, {0, 0, 0, 3}, {0, 0, 0, 4},
        };
        for (int[] w : wrong) {
            Check.refuses("symbol " + java.util.Arrays.toString(w), WRONG,
                    () -> x.symbol(w[0], w[1], w[2], w[3]));
        }
        Check.is("odd place", 0, x.symbol(0, 3, 0, 1));
        Check.is("the section's end", 1, x.symbol(0, 8, 199, 2));
        Check.refuses("GLOBAL twice", WRONG, () -> x.symbol(0, 0, 0, 1));
        Check.refuses("GLOBAL and WEAK", WRONG, () -> x.symbol(0, 0, 0, 2));
        Check.is("LOCAL beside GLOBAL", 2, x.symbol(0, 0, 0, 0));
        Check.is("LOCAL twice", 3, x.symbol(0, 4, 0, 0));
        Check.is("GLOBAL beside LOCAL", 4, x.symbol(0, 4, 7, 0));
        Check.is("GLOBAL beside LOCAL", 5, x.symbol(0, 4, 7, 1));
        Check.is("in a ZERO section of another unit", 6, x.symbol(1, 5, 0, 2));
        x.keep(0, true);
        x.link(4096);
        Check.is("odd place's address", 4099, x.means(0, 2));
        Check.is("the end's address", 4104, x.means(1, 2));
    }

    private static void others() {
        LinkYard x = yardOf(2);
        int[][] wrong = {
            {-1, 0, 0, 0, 1}, {2, 0, 0, 0, 1}, {0, -1, 0, 0, 1}, {0, 3, 4, 0, 1},
            {0, 0, 0, 0, 0}, {0, 0, 0, 0, 3}, {0, 1, 0, 0, 3}, {0, 1, 0, 0, -1}, {0, 1, 0, 0, 4},
            {0, 2, 4, 0, 0}, {0, 2, 4, 0, 1}, {0, 2, 4, 0, 2}, {0, 2, 0, 0, 3}, {0, 2, 6, 0, 3},
            {0, 2, 8196, 0, 3}, {0, 2, -4, 0, 3}, {0, 0, 0, -1, 1}, {0, 0, 0, 200, 1},
        };
        for (int[] w : wrong) {
            Check.refuses("other " + java.util.Arrays.toString(w), WRONG,
                    () -> x.other(w[0], w[1], w[2], w[3], w[4]));
        }
        Check.is("UNDEFINED GLOBAL, any v", 0, x.other(0, 0, -3, 0, 1));
        Check.is("UNDEFINED WEAK", 1, x.other(0, 0, 8193, 1, 2));
        Check.is("ABSOLUTE LOCAL", 2, x.other(0, 1, -1, 2, 0));
        Check.is("ABSOLUTE GLOBAL", 3, x.other(0, 1, Integer.MIN_VALUE, 3, 1));
        Check.is("ABSOLUTE WEAK", 4, x.other(0, 1, 6, 4, 2));
        Check.is("least COMMON", 5, x.other(0, 2, 4, 5, 3));
        Check.is("greatest COMMON", 6, x.other(0, 2, 8192, 6, 3));
        for (int name : new int[] {0, 1, 3, 4, 5, 6}) {
            Check.refuses("name again", WRONG, () -> x.other(0, 1, 0, name, 2));
            Check.refuses("COMMON again", WRONG, () -> x.other(0, 2, 4, name, 3));
        }
        Check.is("name that is LOCAL", 7, x.other(0, 2, 4, 2, 3));
        Check.is("LOCAL again", 8, x.other(0, 1, 4, 5, 0));
        Check.is("name of another unit", 9, x.other(1, 2, 4, 5, 3));
    }

    private static void symbolLimits() {
        LinkYard x = yardOf(1);
        x.section(0, 0, 4, 4);
        for (int i = 0; i < 400; i++) {
            Check.is("symbol", i, i % 2 == 0 ? x.symbol(0, 0, i / 2, 0) : x.other(0, 1, i, 9, 0));
        }
        Check.refuses("401st symbol", FULL, () -> x.symbol(0, 0, 0, 1));
        Check.refuses("401st other", FULL, () -> x.other(0, 0, 0, 0, 1));
        Check.refuses("401st symbol of no name", WRONG, () -> x.symbol(0, 0, 200, 1));
        Check.refuses("401st other of no sort", WRONG, () -> x.other(0, 3, 0, 0, 1));
    }

    private static void relocations() {
        LinkYard x = yardOf(2);
        x.section(0, 0, 8, 4);
        x.section(0, 2, 8, 4);
        x.section(1, 1, 8, 4);
        x.symbol(0, 0, 0, 0);
        x.symbol(2, 0, 0, 0);
        int[][] wrong = {
            {-1, 0, 0, 0}, {3, 0, 0, 0}, {1, 0, 0, 0}, {0, -4, 0, 0}, {0, 8, 0, 0}, {0, 2, 0, 0},
            {0, 0, -1, 0}, {0, 0, 6, 0}, {0, 0, 0, -1}, {0, 0, 0, 2}, {0, 0, 0, 1}, {2, 0, 0, 0},
        };
        for (int[] w : wrong) {
            Check.refuses("relocation " + java.util.Arrays.toString(w), WRONG,
                    () -> x.relocation(w[0], w[1], w[2], w[3], 0));
        }
        for (int i = 0; i < 600; i++) {
            Check.is("relocation", i, x.relocation(i % 2 * 2, i % 4 / 2 * 4, 0, i % 2, i));
        }
        Check.refuses("601st relocation", FULL, () -> x.relocation(0, 0, 0, 0, 0));
        Check.refuses("601st relocation of no sort", WRONG, () -> x.relocation(0, 0, 6, 0, 0));
        x.keep(2, true);
        x.link(0);
        // Those at place 4 are 3, 7, .. 599: 150 of them, of the sum 45150, all meaning address 0.
        Check.is("several at one place", 45150, x.at(4));
    }

    private static void entries() {
        LinkYard x = yardOf(1);
        x.section(0, 0, 8, 4);
        x.symbol(0, 0, 199, 1);
        Check.refuses("entry -2", WRONG, () -> x.entry(-2));
        Check.refuses("entry 200", WRONG, () -> x.entry(200));
        x.entry(199);
        Check.is("with an entry", 8, x.link(0));
        x.entry(0);
        Check.is("with another that is missing", NONE, x.link(0));
        x.entry(NONE);
        Check.is("without one", 0, x.link(0));
    }

    private static void keeping() {
        LinkYard x = yardOf(2);
        x.unit(0);
        x.section(0, 0, 8, 4);
        x.section(1, 2, 16, 4);
        x.section(2, 0, 32, 4);
        Check.refuses("keep -1", WRONG, () -> x.keep(-1, true));
        Check.refuses("keep 3", WRONG, () -> x.keep(3, false));
        x.keep(0, true);
        x.keep(1, true);
        x.keep(2, true);
        Check.is("kept of units that are in", 24, x.link(0));
        x.keep(1, false);
        x.keep(1, false);
        Check.is("not any more", 8, x.link(0));
    }

    private static void folding() {
        LinkYard x = yardOf(1);
        x.unit(1);
        x.unit(0);
        x.section(0, 0, 4, 4);
        x.section(0, 0, 4, 4);
        x.section(0, 1, 8, 4);
        x.symbol(0, 0, 0, 0);
        x.symbol(1, 0, 0, 0);
        x.relocation(2, 0, 0, 0, 0);
        x.relocation(2, 4, 0, 1, 0);
        x.keep(2, true);
        x.other(0, 0, 0, 1, 1);
        x.other(1, 1, 0, 1, 1);
        x.other(1, 0, 0, 2, 1);
        x.other(2, 1, 0, 2, 1);
        for (int i = 0; i < 4; i++) {
            boolean folds = i % 2 == 1;
            boolean groups = i >= 2;
            x.fold(folds, groups);
            Check.is("bytes, folded " + folds, folds ? 12 : 16, x.link(0));
            Check.is("in, grouped " + groups, groups ? 3 : 2, x.about(0));
        }
    }

    private static void clearing() {
        LinkYard x = yardOf(3);
        x.unit(2);
        for (int i = 0; i < 50; i++) {
            x.section(0, 0, 4096, 4);
            x.word(i, 0, -1);
            x.word(i, 4, -1);
            x.keep(i, true);
            x.symbol(i, 0, i, 1);
            x.relocation(i, 4, 0, i, 0);
        }
        x.entry(7);
        x.fold(true, true);
        x.clear();
        isAsAtFirst("cleared", x);
        x.clear();
        x.entry(3);
        x.link(0);
        x.clear();
        isAsAtFirst("cleared with a fault", x);
    }

    private static LinkYard linkedYard() {
        LinkYard x = yardOf(1);
        x.section(0, 0, 8, 4);
        x.symbol(0, 0, 1, 1);
        x.other(0, 0, 0, 2, 1);
        x.keep(0, true);
        x.link(0);
        return x;
    }

    private static void tellOne(LinkYard x, int which) {
        switch (which) {
            case 0: x.unit(0); break;
            case 1: x.section(0, 1, 0, 4); break;
            case 2: x.word(0, 0, 0); break;
            case 3: x.symbol(0, 0, 5, 1); break;
            case 4: x.other(0, 1, 0, 6, 1); break;
            case 5: x.relocation(0, 0, 0, 0, 0); break;
            case 6: x.entry(NONE); break;
            case 7: x.keep(0, true); break;
            case 8: x.fold(false, false); break;
            default: x.clear(); break;
        }
    }

    private static void tellingTakesTheLinkAway() {
        for (int which = 0; which <= 9; which++) {
            LinkYard x = linkedYard();
            Check.is("linked", 1, x.about(0));
            tellOne(x, which);
            for (Check.Deed ask : new Check.Deed[] {() -> x.about(0), () -> x.isIn(0),
                () -> x.address(0), () -> x.like(0), () -> x.means(0, 0), () -> x.common(0),
                () -> x.at(0)}) {
                Check.refuses("asked after telling " + which, UNLINKED, ask);
            }
            LinkYard y = linkedYard();
            y.entry(9);
            y.link(0);
            Check.is("a fault", 2, y.fault(0));
            tellOne(y, which);
            Check.is("fault after telling " + which, 0, y.fault(0));
            Check.is("its name", NONE, y.fault(1));
            Check.is("its relocation", NONE, y.fault(2));
        }
    }

    private static void throwingChangesNothing() {
        LinkYard x = linkedYard();
        Check.Deed[] wrong = {() -> x.unit(9), () -> x.section(0, 9, 0, 4), () -> x.word(0, 9, 9),
            () -> x.symbol(0, 0, 1, 1), () -> x.other(0, 0, 0, 2, 2),
            () -> x.relocation(0, 0, 9, 0, 0), () -> x.entry(999), () -> x.keep(9, true),
            () -> x.link(1)};
        for (Check.Deed deed : wrong) {
            Check.refuses("wrong", WRONG, deed);
            Check.is("still linked", 8, x.about(6));
        }
        Check.is("same link", 8, x.link(0));
        Check.is("next unit", 1, x.unit(NONE));
        Check.is("next section", 1, x.section(0, 0, 4, 4));
        Check.is("next symbol", 2, x.symbol(0, 0, 3, 1));
        Check.is("next relocation", 0, x.relocation(0, 0, 0, 0, 0));
        x.entry(9);
        x.link(0);
        Check.refuses("wrong base", WRONG, () -> x.link(-4096));
        Check.is("the fault stays", 9, x.fault(1));
    }
}
