import java.util.function.Consumer;
import java.util.function.Supplier;

/** What the tests of the boundary cases share: the document's numbers by name, and small yards. */
abstract class Edge {
    static final int NONE = LinkYard.NONE;
    static final int TEXT = 0, DATA = 1, ZERO = 2;
    static final int LOCAL = 0, GLOBAL = 1, WEAK = 2, COMMON = 3;
    static final int UNDEFINED = 0, ABSOLUTE = 1, SIZED = 2;
    static final int WORD = 0, RELATIVE = 1, HIGH = 2, LOW = 3, NEAR = 4, JUMP = 5;
    static final int TWICE = 1, MISSING = 2, FAR = 3, MUCH = 4, PLACE = 5;
    static final int LEAST = Integer.MIN_VALUE, GREATEST = Integer.MAX_VALUE;
    static final Class<IllegalArgumentException> WRONG = IllegalArgumentException.class;
    static final Class<UnsupportedOperationException> FULL = UnsupportedOperationException.class;
    static final Class<IllegalStateException> UNLINKED = IllegalStateException.class;
    static final Class<IndexOutOfBoundsException> OUTSIDE = IndexOutOfBoundsException.class;

    /** A yard with a unit for each archive that is named (NONE: a loose one). */
    static LinkYard yard(int... archives) {
        LinkYard x = new LinkYard();
        for (int archive : archives) {
            Check.is("a unit is told", true, x.unit(archive) >= 0);
        }
        return x;
    }

    /** A section that is kept. */
    static int kept(LinkYard x, int kind, int size, int alignment) {
        int section = x.section(0, kind, size, alignment);
        x.keep(section, true);
        return section;
    }

    /** Each number in turn, on a yard of its own: refused, and nothing is changed by it. */
    static void refusesEach(String what, Class<? extends RuntimeException> due,
            Supplier<LinkYard> maker, NumberCall call, int... numbers) {
        for (int n : numbers) {
            refused(what + " " + n, due, maker, x -> call.go(x, n));
        }
    }

    interface NumberCall {
        void go(LinkYard x, int n);
    }

    /** The call is refused as is due, and all answers are as they were, those of a link too. */
    static void refused(String what, Class<? extends RuntimeException> due,
            Supplier<LinkYard> maker, Consumer<LinkYard> call) {
        LinkYard x = maker.get();
        String before = answers(x);
        Check.refuses(what, due, () -> call.accept(x));
        Check.is(what + " changes nothing", before, answers(x));
        LinkYard untouched = maker.get();
        Check.is(what + " changes no later link", later(untouched), later(x));
    }

    private static String later(LinkYard x) {
        return x.link(8192) + " " + answers(x) + counts(x);
    }

    /** What 29 calls answer: few enough that a full object, asked thrice, has had under 512. */
    static String answers(LinkYard x) {
        StringBuilder text = new StringBuilder();
        for (int what = 0; what < 8; what++) {
            int n = what;
            text.append(Check.outcome(() -> x.about(n))).append(' ');
        }
        for (int number = 0; number < 3; number++) {
            int n = number;
            text.append(Check.outcome(() -> x.fault(n))).append(' ');
            text.append(Check.outcome(() -> x.isIn(n))).append(' ');
            text.append(Check.outcome(() -> x.address(n))).append(' ');
            text.append(Check.outcome(() -> x.like(n))).append(' ');
            text.append(Check.outcome(() -> x.means(n, 2))).append(' ');
            text.append(Check.outcome(() -> x.common(n))).append(' ');
            text.append(Check.outcome(() -> x.at(8192 + 4 * n))).append(' ');
        }
        return text.toString();
    }

    /** The numbers that the next ones of each sort get, so how many there were. */
    private static String counts(LinkYard x) {
        StringBuilder text = new StringBuilder();
        text.append(Check.outcome(() -> x.unit(NONE))).append(' ');
        text.append(Check.outcome(() -> x.section(0, TEXT, 0, 4))).append(' ');
        text.append(Check.outcome(() -> x.section(0, DATA, 4, 4))).append(' ');
        text.append(Check.outcome(() -> x.other(0, ABSOLUTE, 0, 150, LOCAL))).append(' ');
        text.append(Check.outcome(() -> x.relocation(0, 0, WORD, 0, 0)));
        return text.toString();
    }

    static void isAbout(String what, LinkYard x, int... due) {
        for (int n = 0; n < due.length; n++) {
            Check.is(what + ": about " + n, due[n], x.about(n));
        }
    }

    static void faults(String what, LinkYard x, int kind, int name, int relocation) {
        Check.is(what + ": link", NONE, x.link(0));
        isFault(what, x, kind, name, relocation);
        Check.refuses(what + ": nothing is linked", UNLINKED, () -> x.about(6));
    }

    static void isFault(String what, LinkYard x, int kind, int name, int relocation) {
        Check.is(what + ": kind", kind, x.fault(0));
        Check.is(what + ": name", name, x.fault(1));
        Check.is(what + ": relocation", relocation, x.fault(2));
    }
}
