/** Promises 14 to 20: what is asked about a link. */
public final class AskingTest {
    private static final Class<IllegalArgumentException> WRONG = IllegalArgumentException.class;
    private static final Class<IllegalStateException> UNLINKED = IllegalStateException.class;
    private static final int NONE = LinkYard.NONE;

    public static void main(String[] args) {
        unlinked();
        isIn();
        addresses();
        likes();
        meanings();
        commons();
        words();
        abouts();
        Check.end();
    }

    /**
     * Units 0 (loose), 1 (of archive 0, in) and 2 (of archive 0, not in); TEXT 0 and DATA 1 of unit
     * 0, TEXT 2 and ZERO 3 of unit 1, TEXT 4 of unit 2, TEXT 5 of unit 0 that is not reached.
     */
    private static LinkYard told() {
        LinkYard x = new LinkYard();
        x.unit(NONE);
        x.unit(0);
        x.unit(0);
        x.section(0, 0, 8, 4);
        x.section(0, 1, 8, 16);
        x.section(1, 0, 8, 4);
        x.section(1, 2, 8, 4);
        x.section(2, 0, 8, 4);
        x.section(0, 0, 8, 4);
        x.symbol(0, 0, 1, 1);            // 0: the entry
        x.other(0, 0, 0, 2, 1);          // 1: means place 4 of section 2
        x.symbol(2, 4, 2, 1);            // 2
        x.symbol(3, 4, 3, 0);            // 3
        x.other(0, 2, 12, 4, 3);         // 4: a common place that is reached
        x.other(0, 2, 12, 5, 3);         // 5: one that is not
        x.symbol(4, 0, 6, 1);            // 6: of unit 2
        x.symbol(5, 4, 7, 1);            // 7: of the section that is not reached
        x.other(0, 1, -9, 8, 2);         // 8: a number
        x.other(0, 0, 0, 9, 2);          // 9: 0
        x.other(0, 0, 0, 10, 1);         // 10: nothing
        x.other(2, 1, 5, 11, 0);         // 11: a LOCAL number of unit 2
        x.symbol(1, 8, 12, 0);           // 12: the end of section 1
        x.relocation(0, 0, 0, 1, 0);
        x.relocation(0, 4, 0, 12, 0);
        x.relocation(2, 0, 0, 3, 0);
        x.relocation(1, 4, 0, 4, 0);
        x.word(1, 0, 99);
        x.entry(1);
        return x;
    }

    private static LinkYard linked() {
        LinkYard x = told();
        // TEXT 0 and 2 at 4096 and 4104, DATA 1 at 4112, ZERO 3 at 4120, common 4 at 4128.
        Check.is("bytes", 44, x.link(4096));
        return x;
    }

    private static void unlinked() {
        LinkYard x = told();
        Check.refuses("isIn", UNLINKED, () -> x.isIn(0));
        Check.refuses("isIn of none", UNLINKED, () -> x.isIn(-1));
        Check.refuses("address", UNLINKED, () -> x.address(0));
        Check.refuses("address of none", UNLINKED, () -> x.address(99));
        Check.refuses("like", UNLINKED, () -> x.like(0));
        Check.refuses("like of none", UNLINKED, () -> x.like(-1));
        Check.refuses("means", UNLINKED, () -> x.means(0, 0));
        Check.refuses("means of none", UNLINKED, () -> x.means(-1, 9));
        Check.refuses("common", UNLINKED, () -> x.common(0));
        Check.refuses("common of none", UNLINKED, () -> x.common(200));
        Check.refuses("at", UNLINKED, () -> x.at(4096));
        Check.refuses("at nowhere", UNLINKED, () -> x.at(-1));
        Check.refuses("about", UNLINKED, () -> x.about(0));
        Check.refuses("about nothing", UNLINKED, () -> x.about(8));
    }

    private static void isIn() {
        LinkYard x = linked();
        Check.is("loose", true, x.isIn(0));
        Check.is("needed", true, x.isIn(1));
        Check.is("not needed", false, x.isIn(2));
        Check.refuses("unit -1", WRONG, () -> x.isIn(-1));
        Check.refuses("unit 3", WRONG, () -> x.isIn(3));
    }

    private static void addresses() {
        LinkYard x = linked();
        int[] due = {4096, 4112, 4104, 4120, NONE, NONE};
        for (int s = 0; s < due.length; s++) {
            Check.is("address " + s, due[s], x.address(s));
        }
        Check.refuses("section -1", WRONG, () -> x.address(-1));
        Check.refuses("section 6", WRONG, () -> x.address(6));
        LinkYard y = told();
        y.link(0);
        Check.is("address 0", 0, y.address(0));
    }

    private static void likes() {
        LinkYard x = linked();
        int[] due = {0, 1, 2, 3, NONE, NONE};
        for (int s = 0; s < due.length; s++) {
            Check.is("like " + s, due[s], x.like(s));
        }
        Check.refuses("section -1", WRONG, () -> x.like(-1));
        Check.refuses("section 6", WRONG, () -> x.like(6));
    }

    private static void meanings() {
        LinkYard x = linked();
        int[][] due = {
            {1, 0, 4096}, {1, 2, 4108}, {1, 2, 4108}, {1, 3, 4124}, {3, NONE, 4128}, {3, NONE, 0},
            {NONE, NONE, 0}, {1, 5, 0}, {2, NONE, -9}, {2, NONE, 0}, {0, NONE, 0}, {NONE, NONE, 0},
            {1, 1, 4120},
        };
        for (int s = 0; s < due.length; s++) {
            for (int what = 0; what < 3; what++) {
                Check.is("means " + s + " " + what, due[s][what], x.means(s, what));
            }
        }
        Check.refuses("symbol -1", WRONG, () -> x.means(-1, 0));
        Check.refuses("symbol 13", WRONG, () -> x.means(13, 0));
        Check.refuses("what -1", WRONG, () -> x.means(0, -1));
        Check.refuses("what 3", WRONG, () -> x.means(0, 3));
    }

    private static void commons() {
        LinkYard x = linked();
        Check.is("reached", 4128, x.common(4));
        Check.is("not reached", NONE, x.common(5));
        Check.is("no common place", NONE, x.common(1));
        Check.is("name of nothing", NONE, x.common(199));
        Check.refuses("name -1", WRONG, () -> x.common(-1));
        Check.refuses("name 200", WRONG, () -> x.common(200));
    }

    private static void words() {
        LinkYard x = linked();
        int[] due = {4108, 4120, 4124, 0, 99, 4128, 0, 0, 0, 0, 0};
        for (int i = 0; i < due.length; i++) {
            Check.is("at " + (4096 + 4 * i), due[i], x.at(4096 + 4 * i));
        }
        for (int address : new int[] {4092, 4140, 4097, 4098, 4099, 0, -4, -1, 4144,
            Integer.MIN_VALUE, Integer.MAX_VALUE}) {
            Check.refuses("at " + address, IndexOutOfBoundsException.class, () -> x.at(address));
        }
        LinkYard empty = new LinkYard();
        empty.link(4096);
        Check.refuses("at nothing", IndexOutOfBoundsException.class, () -> empty.at(4096));
        LinkYard gaps = new LinkYard();
        gaps.unit(NONE);
        for (int s = 0; s < 2; s++) {
            gaps.section(0, 1, 4, 16);
            gaps.word(s, 0, 7);
            gaps.keep(s, true);
        }
        gaps.link(0);
        Check.is("before the gap", 7, gaps.at(0));
        Check.is("the gap", 0, gaps.at(4));
        Check.is("its end", 0, gaps.at(12));
        Check.is("behind the gap", 7, gaps.at(16));
    }

    private static void abouts() {
        LinkYard x = linked();
        int[] due = {2, 4, 0, 0, NONE, 0, 4140, 1};
        for (int what = 0; what < due.length; what++) {
            Check.is("about " + what, due[what], x.about(what));
        }
        Check.refuses("about -1", WRONG, () -> x.about(-1));
        Check.refuses("about 8", WRONG, () -> x.about(8));
    }
}
