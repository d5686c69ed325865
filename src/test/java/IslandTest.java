/** Islands, with the faults FAR and MUCH: promises 12, 13, 19 and 20. */
public final class IslandTest {
    private static final int NONE = LinkYard.NONE;
    private static final int TEXT = 0, DATA = 1, ZERO = 2;
    private static final int LOCAL = 0, COMMON = 3;
    private static final int WORD = 0, NEAR = 4;

    public static void main(String[] args) {
        farthest();
        oddTargets();
        wholeWays();
        shared();
        notShared();
        foldedTargets();
        cascade();
        farIsland();
        farData();
        farOrder();
        much();
        onlyStanding();
        Check.end();
    }

    /** A TEXT section 0 of so many bytes, kept. */
    private static LinkYard yard(int size) {
        LinkYard x = new LinkYard();
        x.unit(NONE);
        x.section(0, TEXT, size, 4);
        x.keep(0, true);
        return x;
    }

    private static LinkYard branch(int number, int addend) {
        LinkYard x = yard(8);
        x.other(0, 1, number, 0, LOCAL);
        x.relocation(0, 4, NEAR, 0, addend);
        return x;
    }

    /** about(3) to about(5) and about(7): islands, the first one's address, goers, layings. */
    private static void islands(String what, LinkYard x, int count, int first, int goers,
            int times) {
        Check.is(what + ": islands", count, x.about(3));
        Check.is(what + ": the first one", first, x.about(4));
        Check.is(what + ": relocations that go there", goers, x.about(5));
        Check.is(what + ": laid", times, x.about(7));
    }

    private static void fault(String what, LinkYard x, int kind, int relocation) {
        Check.is(what + ": link", NONE, x.link(0));
        Check.is(what + ": kind", kind, x.fault(0));
        Check.is(what + ": name", NONE, x.fault(1));
        Check.is(what + ": relocation", relocation, x.fault(2));
    }

    private static void farthest() {
        // The branch stands at 1048580: the way is counted from 1048584.
        int[] near = {1048584 + 131068, 1048584 - 131072, 1048584, 1048580};
        for (int number : near) {
            LinkYard x = branch(number - 4, 4);
            Check.is("near", 8, x.link(1048576));
            islands("near " + number, x, 0, NONE, 0, 1);
        }
        int[] far = {1048584 + 131072, 1048584 - 131076, 0, Integer.MAX_VALUE, 1048585, 1048586};
        for (int number : far) {
            LinkYard x = branch(number - 4, 4);
            x.word(0, 4, 0x12345678);
            Check.is("far", 16, x.link(1048576));
            islands("far " + number, x, 1, 1048584, 1, 2);
            Check.is("the branch goes to the island", 0x12340000, x.at(1048580));
            Check.is("the island's address", number, x.at(1048584));
            Check.is("its second word", 0, x.at(1048588));
        }
    }

    private static void oddTargets() {
        LinkYard x = yard(12);
        x.symbol(0, 3, 0, LOCAL);
        x.relocation(0, 0, NEAR, 0, 0);
        x.relocation(0, 8, NEAR, 0, 1);
        x.link(0);
        islands("an odd place", x, 1, 12, 1, 2);
        Check.is("its address", 3, x.at(12));
        Check.is("the branch there", 2, x.at(0));
        Check.is("with the addend it is even", 0xFFFE, x.at(8));
    }

    private static void wholeWays() {
        // Islands stand in the order of the relocations, not of their places.
        LinkYard x = branch(Integer.MAX_VALUE, Integer.MAX_VALUE);
        x.other(0, 1, Integer.MIN_VALUE, 1, LOCAL);
        x.relocation(0, 0, NEAR, 1, 4);
        x.link(0);
        islands("wrapping", x, 2, 8, 2, 3);
        Check.is("the first relocation's", -2, x.at(8));
        Check.is("the second relocation's", Integer.MIN_VALUE + 4, x.at(16));
        // S + A wraps to -4, which is near; the way itself is a whole number and never wraps.
        LinkYard y = branch(Integer.MAX_VALUE, Integer.MAX_VALUE - 2);
        y.link(0);
        islands("-4 is near", y, 0, NONE, 0, 1);
        Check.is("three words back", 0xFFFD, y.at(4));
    }

    private static void shared() {
        LinkYard x = yard(40);
        int high = 1 << 28;
        int a = x.other(0, 1, high, 0, LOCAL);
        int b = x.other(0, 1, high + 8, 0, LOCAL);
        x.relocation(0, 0, NEAR, a, 0);
        x.relocation(0, 4, NEAR, b, 0);
        x.relocation(0, 8, NEAR, b, -8);
        x.relocation(0, 12, NEAR, a, 8);
        x.link(0);
        islands("number and addend together", x, 2, 40, 4, 5);
        Check.is("the first", high, x.at(40));
        Check.is("the second", high + 8, x.at(48));
        Check.is("to the first", 9, x.at(0));
        Check.is("to the second", 10, x.at(4));
        Check.is("to the first again", 7, x.at(8));
        Check.is("to the second again", 8, x.at(12));
    }

    private static void notShared() {
        // All targets have the address 46 at last, but only the same common place is shared.
        LinkYard x = yard(16);
        x.section(0, DATA, 4, 4);
        x.section(0, ZERO, 4, 4);
        int end = x.symbol(1, 4, 0, LOCAL);
        int begin = x.symbol(2, 0, 0, LOCAL);
        int common = x.other(0, 2, 4, 7, COMMON);
        x.relocation(0, 0, NEAR, end, 2);
        x.relocation(0, 4, NEAR, begin, 2);
        x.relocation(0, 8, NEAR, common, -2);
        x.relocation(0, 12, NEAR, common, -2);
        Check.is("bytes", 16 + 24 + 12, x.link(0));
        islands("places of two sections", x, 3, 16, 4, 5);
        Check.is("DATA's end", 46, x.at(16));
        Check.is("ZERO's begin", 46, x.at(24));
        Check.is("the common place", 46, x.at(32));
    }

    private static void foldedTargets() {
        LinkYard x = yard(8);
        x.section(0, TEXT, 4, 4);
        x.section(0, TEXT, 4, 4);
        x.relocation(0, 0, NEAR, x.symbol(1, 1, 0, LOCAL), 0);
        x.relocation(0, 4, NEAR, x.symbol(2, 0, 0, LOCAL), 1);
        x.link(0);
        islands("two sections", x, 2, 16, 2, 3);
        x.fold(true, false);
        Check.is("bytes", 20, x.link(0));
        islands("one folded into the other", x, 1, 12, 2, 3);
        Check.is("its address", 9, x.at(12));
        Check.is("there", 2, x.at(0));
        Check.is("there too", 1, x.at(4));
    }

    /** Each island pushes DATA on by 8 bytes, so that nearer targets need one as well. */
    private static void cascade() {
        LinkYard x = yard(16);
        for (int i = 0; i < 17; i++) {
            x.section(0, DATA, 8192, 4);
            x.keep(i + 1, true);
        }
        // Ways from 0, 4, 8 and 12, with DATA at 16: 131056, 131064, 131068 and 131072.
        x.relocation(0, 0, NEAR, x.symbol(16, 8164, 0, LOCAL), 0);
        x.relocation(0, 4, NEAR, x.symbol(16, 8176, 1, LOCAL), 0);
        x.relocation(0, 8, NEAR, x.symbol(16, 8184, 2, LOCAL), 0);
        x.relocation(0, 12, NEAR, x.symbol(17, 0, 3, LOCAL), 0);
        Check.is("bytes", 16 + 32 + 17 * 8192, x.link(0));
        islands("one after another", x, 4, 16, 4, 5);
        // The last branch is met first; then the second, for it stands ahead of the third.
        Check.is("the first island", 48 + 131072, x.at(16));
        Check.is("the second", 48 + 122880 + 8176, x.at(24));
        Check.is("the third", 48 + 122880 + 8164, x.at(32));
        Check.is("the fourth", 48 + 122880 + 8184, x.at(40));
        Check.is("the first branch", 7, x.at(0));
        Check.is("the last branch", 0, x.at(12));
    }

    private static void farIsland() {
        LinkYard x = yard(8);
        for (int i = 0; i < 16; i++) {
            x.section(0, TEXT, i < 15 ? 8192 : 8188, 4);
            x.keep(i + 1, true);
        }
        x.other(0, 1, -4096, 0, LOCAL);
        x.relocation(0, 4, NEAR, 0, 0);
        Check.is("the way to what is near", 8 + 131068, x.link(0));
        x.relocation(0, 4, NEAR, 0, 1 << 30);
        Check.is("the farthest island", 8 + 131068 + 8, x.link(0));
        Check.is("the branch there", 0x7FFF, x.at(4));
        x.relocation(0, 0, NEAR, 0, 1 << 30);
        fault("an island that is too far", x, 3, 2);
    }

    private static void farData() {
        LinkYard x = new LinkYard();
        x.unit(NONE);
        x.section(0, DATA, 8, 4);
        x.keep(0, true);
        x.other(0, 1, 131072, 0, LOCAL);
        x.relocation(0, 0, NEAR, 0, 0);
        Check.is("the farthest target", 8, x.link(0));
        x.relocation(0, 4, NEAR, 0, 2);
        fault("no multiple of 4", x, 3, 1);
        LinkYard y = new LinkYard();
        y.unit(NONE);
        y.section(0, DATA, 8, 4);
        y.keep(0, true);
        y.other(0, 1, 131076, 0, LOCAL);
        y.relocation(0, 0, NEAR, 0, 0);
        fault("DATA has no islands", y, 3, 0);
    }

    private static void farOrder() {
        LinkYard x = new LinkYard();
        x.unit(NONE);
        x.section(0, DATA, 8, 4);
        for (int i = 0; i < 17; i++) {
            x.section(0, TEXT, 8192, 4);
            x.keep(i + 1, true);
        }
        x.other(0, 1, 1 << 30, 0, LOCAL);
        x.relocation(1, 0, NEAR, 0, 0);
        x.relocation(0, 4, NEAR, 0, 0);
        x.relocation(0, 0, NEAR, 0, 0);
        fault("the island's", x, 3, 0);
        x.keep(0, true);
        fault("by sections, then relocations", x, 3, 1);
    }

    private static void much() {
        LinkYard x = yard(256);
        x.section(0, DATA, 4, 4);
        x.keep(1, true);
        x.other(0, 1, 1 << 29, 0, LOCAL);
        for (int i = 0; i < 32; i++) {
            x.relocation(0, 4 * i, NEAR, 0, 4 * i);
            x.relocation(0, 4 * i, NEAR, 0, 4 * i);
        }
        Check.is("32 islands", 256 + 256 + 4, x.link(0));
        islands("32", x, 32, 256, 64, 65);
        Check.is("the last one", (1 << 29) + 124, x.at(504));
        x.relocation(0, 0, NEAR, 0, 4 * 31);
        Check.is("an old one again", 516, x.link(0));
        x.relocation(0, 252, NEAR, 0, 4 * 32);
        fault("a 33rd", x, 4, NONE);
        x.relocation(1, 0, NEAR, 0, 0);
        fault("ahead of FAR", x, 4, NONE);
    }

    /** Branches of sections that are not reached or that are folded need no island. */
    private static void onlyStanding() {
        LinkYard x = new LinkYard();
        x.unit(NONE);
        for (int i = 0; i < 3; i++) {
            x.section(0, TEXT, 4, 4);
            x.symbol(i, 0, i, LOCAL);
        }
        x.section(0, DATA, 8, 4);
        int far = x.other(0, 1, 1 << 29, 5, LOCAL);
        for (int i = 0; i < 3; i++) {
            x.relocation(i, 0, NEAR, far, 0);
        }
        x.relocation(3, 0, WORD, 0, 0);
        x.relocation(3, 4, WORD, 1, 0);
        x.keep(3, true);
        x.link(0);
        islands("not folded", x, 1, 8, 2, 3);
        x.fold(true, false);
        x.link(0);
        islands("folded", x, 1, 4, 1, 2);
        Check.is("the branch", 0, x.at(0));
    }
}
