/** Which sections are like each other, and what folding does: promises 10, 12, 16 and 20. */
public final class FoldTest {
    private static final int NONE = LinkYard.NONE;
    private static final int TEXT = 0, DATA = 1;
    private static final int LOCAL = 0, GLOBAL = 1, WEAK = 2, COMMON = 3;
    private static final int WORD = 0, LOW = 3, NEAR = 4;

    public static void main(String[] args) {
        likeByLook();
        unlikeByLook();
        likeByTargets();
        unlikeByTargets();
        likeRings();
        brokenRings();
        keptOnesStay();
        onlyText();
        laidWhereItIs();
        Check.end();
    }

    /** Two TEXT sections 0 and 1 with LOCAL symbols 0 and 1; DATA section 2 points at both. */
    private static LinkYard pair(int size, int alignment) {
        LinkYard x = new LinkYard();
        x.unit(NONE);
        x.section(0, TEXT, 8, 4);
        x.section(0, TEXT, size, alignment);
        x.section(0, DATA, 8, 4);
        x.symbol(0, 0, 0, LOCAL);
        x.symbol(1, 0, 1, LOCAL);
        x.relocation(2, 0, WORD, 0, 0);
        x.relocation(2, 4, WORD, 1, 0);
        x.keep(2, true);
        x.fold(true, false);
        return x;
    }

    private static void alike(String what, boolean due, LinkYard x) {
        x.link(0);
        Check.is(what + ": like", due ? 0 : 1, x.like(1));
        Check.is(what + ": the first one", 0, x.like(0));
        Check.is(what + ": folded", due ? 1 : 0, x.about(2));
        Check.is(what + ": reached", true, x.about(1) >= 3);
        Check.is(what + ": same address", due, x.address(0) == x.address(1));
    }

    private static void likeByLook() {
        LinkYard x = pair(8, 4);
        alike("zeroes", true, x);
        x.word(0, 4, 9);
        alike("other words", false, x);
        x.word(1, 4, 9);
        alike("same words", true, x);
        x.fold(false, false);
        alike("not folded", false, x);
    }

    private static void unlikeByLook() {
        alike("size", false, pair(4, 4));
        alike("alignment", false, pair(8, 8));
        LinkYard x = pair(8, 4);
        x.relocation(0, 0, WORD, 0, 0);
        alike("as many relocations", false, x);
    }

    private static LinkYard pointing(int placeA, int sortA, int addendA, int placeB, int sortB,
            int addendB) {
        LinkYard x = pair(8, 4);
        int number = x.other(0, 1, 77, 5, LOCAL);
        x.relocation(0, placeA, sortA, number, addendA);
        x.relocation(1, placeB, sortB, number, addendB);
        return x;
    }

    private static void likeByTargets() {
        alike("same relocations", true, pointing(4, LOW, 3, 4, LOW, 3));
        LinkYard x = pair(8, 4);
        x.relocation(0, 0, WORD, x.other(0, 1, 0, 5, GLOBAL), 0);
        x.relocation(1, 0, WORD, x.other(0, 0, 0, 6, WEAK), 0);
        alike("the same number", true, x);
        x.relocation(0, 4, WORD, x.other(0, 2, 4, 7, COMMON), 0);
        x.relocation(1, 4, WORD, 4, 0);
        alike("the same common place", true, x);
        x.relocation(1, 4, WORD, x.symbol(2, 4, 8, LOCAL), 0);
        x.relocation(0, 4, WORD, x.symbol(2, 4, 8, LOCAL), 0);
        alike("the same place of one section", true, x);
        // The k-th ones in order are compared, not those at the same place.
        LinkYard y = pair(8, 4);
        y.relocation(0, 0, WORD, 0, 0);
        y.relocation(0, 4, WORD, 0, 0);
        y.relocation(1, 4, WORD, 0, 0);
        y.relocation(1, 0, WORD, 0, 0);
        alike("another order", false, y);
    }

    private static void unlikeByTargets() {
        alike("place", false, pointing(0, LOW, 3, 4, LOW, 3));
        alike("sort", false, pointing(4, LOW, 3, 4, WORD, 3));
        alike("addend", false, pointing(4, LOW, 3, 4, LOW, 4));
        LinkYard x = pair(8, 4);
        x.relocation(0, 0, WORD, x.other(0, 1, 1, 5, LOCAL), 0);
        x.relocation(1, 0, WORD, x.other(0, 1, 2, 6, LOCAL), 0);
        alike("numbers", false, x);
        LinkYard y = pair(8, 4);
        y.relocation(0, 0, WORD, y.other(0, 2, 4, 5, COMMON), 0);
        y.relocation(1, 0, WORD, y.other(0, 2, 4, 6, COMMON), 0);
        alike("common places", false, y);
        LinkYard z = pair(8, 4);
        z.relocation(0, 0, WORD, z.symbol(2, 0, 5, LOCAL), 4);
        z.relocation(1, 0, WORD, z.symbol(2, 4, 6, LOCAL), 4);
        alike("places of one section", false, z);
        LinkYard w = pair(8, 4);
        w.relocation(0, 0, WORD, w.symbol(0, 0, 5, LOCAL), 0);
        w.relocation(1, 0, WORD, w.other(0, 1, 0, 6, LOCAL), 0);
        alike("a place and a number that are the same address", false, w);
    }

    private static void likeRings() {
        LinkYard x = pair(8, 4);
        x.relocation(0, 0, NEAR, 0, 0);
        x.relocation(1, 0, NEAR, 1, 0);
        alike("each means itself", true, x);
        LinkYard y = pair(8, 4);
        y.relocation(0, 0, NEAR, 1, 0);
        y.relocation(1, 0, NEAR, 0, 0);
        alike("each means the other", true, y);
        LinkYard z = pair(8, 4);
        z.relocation(0, 0, NEAR, z.symbol(0, 4, 5, LOCAL), 0);
        z.relocation(1, 0, NEAR, 1, 4);
        alike("place and addend apart", false, z);
    }

    /** Four in a ring whose last one breaks off: the likeness fails step by step. */
    private static void brokenRings() {
        LinkYard x = new LinkYard();
        x.unit(NONE);
        for (int i = 0; i < 5; i++) {
            x.section(0, TEXT, 4, 4);
            x.symbol(i, 0, i, LOCAL);
        }
        x.section(0, DATA, 4, 4);
        for (int i = 0; i < 5; i++) {
            x.relocation(5, 0, WORD, i, 0);
            x.relocation(i, 0, NEAR, i < 4 ? i + 1 : 4, 0);
        }
        x.keep(5, true);
        x.fold(true, true);
        x.link(0);
        Check.is("all are like each other", 4, x.about(2));
        Check.is("the last one too", 0, x.like(4));
        x.word(4, 0, 1);
        x.link(0);
        Check.is("none is", 0, x.about(2));
        Check.is("nor the second", 1, x.like(1));
    }

    private static void keptOnesStay() {
        LinkYard x = pair(8, 4);
        x.keep(0, true);
        alike("first kept", false, x);
        x.keep(0, false);
        x.keep(1, true);
        alike("second kept", false, x);
        x.keep(1, false);
        alike("none kept", true, x);
    }

    private static void onlyText() {
        LinkYard x = new LinkYard();
        x.unit(NONE);
        for (int i = 0; i < 3; i++) {
            x.section(0, DATA, 8, 4);
            x.symbol(i, 0, i, LOCAL);
        }
        x.section(0, TEXT, 8, 4);
        x.section(0, TEXT, 8, 4);
        x.symbol(3, 0, 3, GLOBAL);
        x.relocation(3, 0, WORD, 0, 0);
        x.relocation(3, 0, WORD, 1, 0);
        x.entry(3);
        x.fold(true, false);
        Check.is("DATA is not folded", 24, x.link(0));
        Check.is("itself", 1, x.like(1));
        Check.is("not reached", NONE, x.like(2));
        Check.is("not reached though it looks the same", NONE, x.like(4));
    }

    private static void laidWhereItIs() {
        LinkYard x = pair(8, 4);
        int third = x.section(0, TEXT, 8, 4);
        int symbol = x.symbol(third, 4, 9, GLOBAL);
        x.entry(9);
        x.word(0, 0, 1);
        Check.is("bytes", 24, x.link(4096));
        Check.is("folded into the first that is like it", 1, x.like(third));
        Check.is("its address", 4104, x.address(third));
        Check.is("of its symbol", 4108, x.means(symbol, 2));
        Check.is("the symbol's own section", third, x.means(symbol, 1));
        Check.is("DATA behind", 4112, x.address(2));
        Check.is("reached, folded ones too", 4, x.about(1));
        Check.is("folded", 1, x.about(2));
    }
}
