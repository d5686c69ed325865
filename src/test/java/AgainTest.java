/** One object linked again and again, and one that is full: nothing of an earlier link is left. */
public final class AgainTest {
    private static final int NONE = LinkYard.NONE;
    private static final int TEXT = 0, DATA = 1;
    private static final int LOCAL = 0, GLOBAL = 1, WEAK = 2, COMMON = 3;
    private static final int WORD = 0, NEAR = 4, JUMP = 5;

    public static void main(String[] args) {
        faultThenLink();
        faultThenTelling();
        unitsLeave();
        sectionsAreLeft();
        clearedLimits();
        clearedNames();
        askedByOneIsEnough();
        gapsBesideIslands();
        fullYard();
        Check.end();
    }

    private static LinkYard yard() {
        LinkYard x = new LinkYard();
        x.unit(NONE);
        x.section(0, DATA, 8, 4);
        x.keep(0, true);
        return x;
    }

    private static void faultThenLink() {
        LinkYard x = yard();
        x.other(0, 1, 1048576, 0, LOCAL);
        x.relocation(0, 0, NEAR, 0, 0);
        Check.is("too far from 0", NONE, x.link(0));
        Check.is("FAR", 3, x.fault(0));
        Check.is("of", 0, x.fault(2));
        Check.is("near enough", 8, x.link(1048576));
        Check.is("no fault", 0, x.fault(0));
        Check.is("no relocation", NONE, x.fault(2));
        Check.is("linked", 1, x.about(0));
        Check.is("too far again", NONE, x.link(4096));
        Check.refuses("not linked", IllegalStateException.class, () -> x.about(0));
    }

    private static void faultThenTelling() {
        LinkYard x = yard();
        x.other(0, 0, 0, 7, GLOBAL);
        x.relocation(0, 0, JUMP, 0, 0);
        Check.is("MISSING", NONE, x.link(0));
        Check.is("its kind", 2, x.fault(0));
        Check.is("its name", 7, x.fault(1));
        Check.is("its relocation", 0, x.fault(2));
        x.fold(false, false);
        Check.is("no kind", 0, x.fault(0));
        Check.is("no name", NONE, x.fault(1));
        Check.is("no relocation", NONE, x.fault(2));
    }

    private static void unitsLeave() {
        LinkYard x = new LinkYard();
        x.unit(0);
        x.other(0, 1, 0, 3, GLOBAL);
        x.entry(3);
        x.link(0);
        Check.is("in", true, x.isIn(0));
        x.entry(NONE);
        x.link(0);
        Check.is("not in any more", false, x.isIn(0));
        Check.is("means nothing any more", NONE, x.means(0, 0));
    }

    private static void sectionsAreLeft() {
        LinkYard x = yard();
        x.section(0, DATA, 4, 4);
        x.other(0, 2, 16, 0, COMMON);
        x.relocation(0, 0, WORD, 0, 0);
        Check.is("with the common place of name 0", 24, x.link(0));
        Check.is("its address", 8, x.common(0));
        Check.is("one is reached", 1, x.about(1));
        x.keep(0, false);
        x.keep(1, true);
        Check.is("without it", 4, x.link(0));
        Check.is("it has no address", NONE, x.common(0));
        Check.is("nor has the section", NONE, x.address(0));
        Check.is("one is reached still", 1, x.about(1));
    }

    private static void clearedLimits() {
        LinkYard x = new LinkYard();
        for (int round = 0; round < 3; round++) {
            x.unit(NONE);
            for (int i = 0; i < 48; i++) {
                Check.is("section", i, x.section(0, TEXT, 8192, 4));
                x.word(i, 8188, i + 1);
                x.keep(i, true);
            }
            Check.is("as many bytes as ever", 48 * 8192, x.link(0));
            Check.is("the last word", 48, x.at(48 * 8192 - 4));
            x.clear();
            x.unit(NONE);
            x.section(0, DATA, 8192, 4);
            Check.is("not kept", 0, x.link(0));
            x.keep(0, true);
            x.link(0);
            Check.is("a word that was told before", 0, x.at(8188));
            x.clear();
        }
    }

    private static void clearedNames() {
        LinkYard x = yard();
        x.other(0, 2, 16, 5, COMMON);
        x.relocation(0, 0, WORD, 0, 0);
        x.link(0);
        x.clear();
        x.unit(NONE);
        x.other(0, 1, 66, 5, WEAK);
        x.link(0);
        Check.is("no common place of that name", 2, x.means(0, 0));
        Check.is("but the number", 66, x.means(0, 2));
    }

    private static void askedByOneIsEnough() {
        LinkYard x = new LinkYard();
        x.unit(NONE);
        x.unit(NONE);
        x.unit(0);
        x.other(0, 0, 0, 5, GLOBAL);
        x.other(1, 0, 0, 5, WEAK);
        x.other(1, 1, 0, 5, LOCAL);
        x.other(2, 1, 0, 5, GLOBAL);
        x.link(0);
        Check.is("in", true, x.isIn(2));
    }

    private static void gapsBesideIslands() {
        LinkYard x = new LinkYard();
        x.unit(NONE);
        x.section(0, TEXT, 4, 4);
        x.section(0, TEXT, 4, 16);
        x.section(0, DATA, 4, 4096);
        for (int s = 0; s < 3; s++) {
            x.word(s, 0, -1);
            x.keep(s, true);
        }
        x.relocation(0, 0, NEAR, x.other(0, 1, 1 << 29, 0, LOCAL), 0);
        x.relocation(2, 0, WORD, x.other(0, 2, 40, 0, COMMON), 0);
        Check.is("bytes", 4096 + 4 + 40, x.link(0));
        Check.is("the island", 1 << 29, x.at(20));
        for (int address = 24; address < 4096; address += 4) {
            Check.is("the island's second word, or a gap", 0, x.at(address));
        }
        Check.is("a gap between TEXT sections", 0, x.at(4));
        Check.is("DATA", 4099, x.at(4096));
        for (int address = 4100; address < 4140; address += 4) {
            Check.is("the common place", 0, x.at(address));
        }
    }

    /** As much of everything as there may be: no row is too short. */
    private static void fullYard() {
        LinkYard x = new LinkYard();
        for (int u = 0; u < 24; u++) {
            x.unit(u < 12 ? NONE : u % 4);
        }
        for (int s = 0; s < 96; s++) {
            x.section(s % 24, s % 2, 4160, 4096);
            x.keep(s, true);
        }
        for (int s = 0; s < 400; s++) {
            int unit = s % 24;
            if (s < 192) {
                x.symbol(s % 96, 4160, 7 + s, unit < 12 ? GLOBAL : WEAK);
            } else if (unit < 12) {
                x.other(unit, 2, 8192, (s - 192) % 200, COMMON);
            } else {
                x.other(unit, 1, s, s % 200, LOCAL);
            }
        }
        for (int r = 0; r < 600; r++) {
            x.relocation(r % 96, r % 1040 * 4, r % 4, r % 24 + r % 16 * 24, r);
        }
        askAll(x);
        x.entry(199);
        x.fold(true, true);
        askAll(x);
    }

    private static void askAll(LinkYard x) {
        int bytes = x.link(1048576);
        Check.is("linked: " + x.fault(0) + " " + x.fault(1) + " " + x.fault(2), true, bytes > 0);
        for (int i = -1; i <= 400; i++) {
            int n = i;
            harmless("means", () -> x.means(n, 2));
            harmless("address", () -> x.address(n));
            harmless("like", () -> x.like(n));
            harmless("common", () -> x.common(n));
            harmless("isIn", () -> x.isIn(n));
            harmless("about", () -> x.about(n));
        }
        for (int address = 1048576; address < 1048576 + bytes; address += 64) {
            int a = address;
            harmless("at", () -> x.at(a));
        }
    }

    /** An answer, or one of the exceptions that the document names, and no other class. */
    private static void harmless(String what, Check.Call call) {
        Object got = Check.outcome(call);
        boolean named = got.equals("IllegalArgumentException")
                || got.equals("IllegalStateException");
        Check.is(what + " answers " + got, true, named || !(got instanceof String));
    }
}
