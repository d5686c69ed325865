/**
 * The boundary cases of NEAR relocations and islands, the second of the terms: ahead of each test
 * stands the document's sentence that it holds to.
 */
public final class EdgeIslandTest extends Edge {
    private static final int BASE = 1048576;

    public static void main(String[] args) {
        waysOn();
        waysBack();
        waysNoMultiple();
        waysAmongTexts();
        waysToOtherThings();
        targetsThatWrap();
        wholeWays();
        emptyTextHasNoIslands();
        islandsBehindEmptyTexts();
        twoWords();
        sameIslandByWrappedSums();
        sameIslandOfFoldedOnes();
        otherIslands();
        commonIslands();
        laidAnew();
        laidMostOften();
        whatTheyMeanNow();
        thirtyTwo();
        thirtyThirdOnlyIfNew();
        muchAheadOfFar();
        farthestIsland();
        farDataOn();
        farDataBack();
        farDataNoMultiple();
        farOnlyIfReached();
        firstFar();
        nearHalves();
        Check.end();
    }

    /** A TEXT section of 8 bytes at BASE with a NEAR relocation at 4, to a number and an addend. */
    private static LinkYard branch(int number, int addend) {
        LinkYard x = yard(NONE);
        kept(x, TEXT, 8, 4);
        x.word(0, 4, 0xABCD1234);
        x.relocation(0, 4, NEAR, x.other(0, ABSOLUTE, number, 0, LOCAL), addend);
        return x;
    }

    private static void isNear(int way, int addend) {
        LinkYard x = branch(BASE + 8 + way - addend, addend);
        Check.is("way " + way, 8, x.link(BASE));
        isAbout("way " + way, x, 1, 1, 0, 0, NONE, 0, BASE + 8, 1);
        Check.is("way " + way, 0xABCD0000 | way / 4 & 0xFFFF, x.at(BASE + 4));
    }

    private static void goesToAnIsland(int way, int addend) {
        LinkYard x = branch(BASE + 8 + way - addend, addend);
        Check.is("way " + way, 16, x.link(BASE));
        isAbout("way " + way, x, 1, 1, 0, 1, BASE + 8, 1, BASE + 16, 2);
        Check.is("way " + way, 0xABCD0000, x.at(BASE + 4));
        Check.is("the island", BASE + 8 + way, x.at(BASE + 8));
        Check.is("its second word", 0, x.at(BASE + 12));
    }

    /** Terms: the way from its place and 4 to its target .. not -131072 .. 131068. */
    private static void waysOn() {
        isNear(0, 0);
        isNear(4, 0);
        isNear(131064, 4);
        isNear(131068, 0);
        isNear(131068, GREATEST);
        goesToAnIsland(131072, 0);
        goesToAnIsland(131072, 8);
        goesToAnIsland(131076, 0);
        goesToAnIsland(1 << 30, 0);
    }

    /** Terms: .. not -131072 .. 131068. */
    private static void waysBack() {
        isNear(-4, 0);
        isNear(-8, 0);
        isNear(-131068, -4);
        isNear(-131072, 0);
        isNear(-131072, LEAST);
        goesToAnIsland(-131076, 0);
        goesToAnIsland(-131076, 4);
        goesToAnIsland(-131080, 0);
        goesToAnIsland(-BASE, 0);
    }

    /** Terms: is no multiple of 4. */
    private static void waysNoMultiple() {
        for (int way : new int[] {1, 2, 3, -1, -2, -3, 5, 131065, 131066, 131067, 131069, -131071,
            -131070, -131073}) {
            goesToAnIsland(way, 0);
            goesToAnIsland(way, 1);
        }
        isNear(4, 1);
        isNear(-4, 3);
    }

    /** 17 TEXT sections, the last of 4 bytes, so 131076 bytes; symbol 0 begins the first one. */
    private static LinkYard longText() {
        LinkYard x = yard(NONE);
        for (int s = 0; s < 16; s++) {
            kept(x, TEXT, 8192, 4);
        }
        kept(x, TEXT, 4, 4);
        x.symbol(0, 0, 0, LOCAL);
        return x;
    }

    /** Terms: the way .. to its target: from one TEXT section to another, as far as it may be. */
    private static void waysAmongTexts() {
        LinkYard x = longText();
        x.relocation(15, 8188, NEAR, 0, 0);
        x.relocation(0, 0, NEAR, x.symbol(16, 0, 1, LOCAL), 0);
        Check.is("131072 back, 131068 on", 131076, x.link(0));
        isAbout("no island", x, 1, 17, 0, 0, NONE, 0, 131076, 1);
        Check.is("on", 0x7FFF, x.at(0));
        Check.is("back", 0x8000, x.at(131068));
        x.relocation(16, 0, NEAR, 0, 0);
        Check.is("131076 back", 131076 + 8, x.link(0));
        isAbout("an island", x, 1, 17, 0, 1, 131076, 1, 131084, 2);
        Check.is("it is just behind", 0, x.at(131072));
        Check.is("its address", 0, x.at(131076));
    }

    /** Terms: its target (S + A): DATA, ZERO and common places are targets too. */
    private static void waysToOtherThings() {
        for (int kind = DATA; kind <= ZERO + 1; kind++) {
            for (int addend = 131064; addend <= 131072; addend += 4) {
                LinkYard x = yard(NONE);
                kept(x, TEXT, 8, 4);
                int target = kind <= ZERO ? x.symbol(kept(x, kind, 4, 4), 0, 0, LOCAL)
                        : x.other(0, SIZED, 4, 0, COMMON);
                x.relocation(0, 4, NEAR, target, addend);
                boolean far = addend > 131068;
                Check.is("bytes", far ? 20 : 12, x.link(4096));
                Check.is("islands", far ? 1 : 0, x.about(3));
                Check.is("the branch", far ? 0 : addend / 4, x.at(4100));
            }
        }
    }

    /** Terms: its target (S + A, an int that wraps). */
    private static void targetsThatWrap() {
        // From place 4 of BASE 0 the way to -4 is -12.
        LinkYard x = branch(GREATEST, GREATEST - 2);
        Check.is("S + A is -4", 8, x.link(0));
        Check.is("no island", 0, x.about(3));
        Check.is("the branch", 0xABCDFFFD, x.at(4));
        LinkYard y = branch(LEAST, LEAST);
        Check.is("S + A is 0", 8, y.link(0));
        Check.is("the branch", 0xABCDFFFE, y.at(4));
        LinkYard z = branch(GREATEST, 1);
        Check.is("S + A is the least int", 16, z.link(0));
        Check.is("the island", LEAST, z.at(8));
        LinkYard w = branch(LEAST, -4);
        Check.is("S + A is the greatest multiple of 4", 16, w.link(0));
        Check.is("the island", GREATEST - 3, w.at(8));
    }

    /** Terms: the way itself as a whole number: it doesn't wrap. */
    private static void wholeWays() {
        for (int number : new int[] {LEAST, LEAST + 4, GREATEST - 3, LEAST + BASE,
            LEAST + 131072}) {
            LinkYard x = branch(number, 0);
            Check.is("far from " + number, 16, x.link(BASE));
            Check.is("the island", number, x.at(BASE + 8));
        }
    }

    /** Terms: LAID are .. ISLANDS: without one nothing is laid there. */
    private static void emptyTextHasNoIslands() {
        LinkYard x = yard(NONE);
        kept(x, TEXT, 0, 4);
        kept(x, DATA, 4, 4);
        Check.is("bytes", 4, x.link(0));
        isAbout("no islands", x, 1, 2, 0, 0, NONE, 0, 4, 1);
    }

    /** Terms: islands 4: not aligned to more, and not below the end of the one before. */
    private static void islandsBehindEmptyTexts() {
        LinkYard x = branch(1 << 30, 0);
        kept(x, TEXT, 0, 64);
        kept(x, DATA, 4, 4);
        Check.is("bytes", 76, x.link(0));
        Check.is("the island", 64, x.about(4));
        Check.is("DATA", 72, x.address(2));
        LinkYard y = branch(1 << 30, 0);
        kept(y, TEXT, 4, 4);
        y.link(0);
        Check.is("an island at 12", 12, y.about(4));
        Check.is("its word", 1 << 30, y.at(12));
    }

    /** Terms: AN ISLAND has two words: an address, and 0. */
    private static void twoWords() {
        LinkYard x = branch(-1, 0);
        x.relocation(0, 4, NEAR, 0, -1);
        Check.is("two islands", 24, x.link(0));
        int[] due = {-1, 0, -2, 0};
        for (int i = 0; i < due.length; i++) {
            Check.is("word " + i, due[i], x.at(8 + 4 * i));
        }
    }

    /** Terms: or numbers, and place or number and addend together are the same: as they wrap. */
    private static void sameIslandByWrappedSums() {
        LinkYard x = branch(GREATEST, 1);
        x.relocation(0, 0, NEAR, x.other(0, ABSOLUTE, LEAST, 1, LOCAL), 0);
        x.relocation(0, 0, NEAR, x.other(0, UNDEFINED, 0, 2, WEAK), LEAST);
        x.relocation(0, 0, NEAR, x.other(0, ABSOLUTE, 1, 3, GLOBAL), GREATEST);
        Check.is("one island", 16, x.link(0));
        isAbout("four go there", x, 1, 1, 0, 1, 8, 4, 16, 5);
        Check.is("its address", LEAST, x.at(8));
    }

    /** Terms: places of the same section, or of those folded into it. */
    private static void sameIslandOfFoldedOnes() {
        LinkYard x = yard(NONE);
        kept(x, TEXT, 8, 4);
        x.section(0, TEXT, 0, 4);
        x.section(0, TEXT, 0, 4);
        x.relocation(0, 0, NEAR, x.symbol(1, 0, 0, LOCAL), 1);
        x.relocation(0, 4, NEAR, x.symbol(2, 0, 0, LOCAL), 1);
        x.link(0);
        Check.is("two sections of one address", 2, x.about(3));
        x.fold(true, false);
        x.link(0);
        isAbout("one is folded into the other", x, 1, 3, 1, 1, 8, 2, 16, 3);
    }

    /** Terms: a place and a number of one address, or places of two sections, have two islands. */
    private static void otherIslands() {
        LinkYard x = yard(NONE);
        kept(x, TEXT, 8, 4);
        kept(x, TEXT, 8, 4);
        x.relocation(0, 0, NEAR, x.symbol(0, 8, 0, LOCAL), 1);
        x.relocation(0, 0, NEAR, x.symbol(1, 0, 1, LOCAL), 1);
        x.relocation(0, 0, NEAR, x.other(0, ABSOLUTE, 8, 2, LOCAL), 1);
        x.relocation(0, 0, NEAR, x.symbol(0, 1, 3, LOCAL), 8);
        x.relocation(0, 0, NEAR, x.symbol(1, 4, 4, LOCAL), -3);
        Check.is("bytes", 16 + 24, x.link(0));
        isAbout("three islands", x, 1, 2, 0, 3, 16, 5, 40, 6);
        for (int i = 0; i < 3; i++) {
            Check.is("island " + i, 9, x.at(16 + 8 * i));
        }
    }

    /** Terms: the same common place .. and place or number and addend together are the same. */
    private static void commonIslands() {
        LinkYard x = yard(NONE);
        kept(x, TEXT, 4, 4);
        x.other(0, SIZED, 4, 0, COMMON);
        x.other(0, SIZED, 4, 199, COMMON);
        x.relocation(0, 0, NEAR, 0, 2);
        x.relocation(0, 0, NEAR, 1, -2);
        x.relocation(0, 0, NEAR, 1, 2);
        x.relocation(0, 0, NEAR, 0, 2);
        x.link(0);
        isAbout("three islands", x, 1, 1, 0, 3, 4, 4, 36, 5);
        Check.is("the first", 30, x.at(4));
        Check.is("the second", 30, x.at(12));
        Check.is("the third", 34, x.at(20));
    }

    /** Terms: Each time that one is told to go to an island, an old or a new one: laid anew. */
    private static void laidAnew() {
        LinkYard x = yard(NONE);
        kept(x, TEXT, 4, 4);
        x.other(0, ABSOLUTE, 1, 0, LOCAL);
        for (int goers = 1; goers <= 40; goers++) {
            x.relocation(0, 0, NEAR, 0, 0);
            Check.is("one island", 12, x.link(0));
            isAbout(goers + " go there", x, 1, 1, 0, 1, 4, goers, 12, goers + 1);
        }
    }

    /** Terms: .. until none needs one: as many as an object of 512 calls can be told. */
    private static void laidMostOften() {
        LinkYard x = yard(NONE);
        kept(x, TEXT, 4, 4);
        x.other(0, ABSOLUTE, 1, 0, LOCAL);
        for (int i = 0; i < 500; i++) {
            x.relocation(0, 0, NEAR, 0, i % 32 * 4);
        }
        Check.is("bytes", 4 + 32 * 8, x.link(0));
        Check.is("relocations that go to islands", 500, x.about(5));
        Check.is("laid", 501, x.about(7));
        Check.is("the last branch", (499 % 32) * 2, x.at(0));
    }

    /** Terms: those that have an island keep it; its address is that of what they mean now. */
    private static void whatTheyMeanNow() {
        LinkYard x = yard(NONE);
        kept(x, TEXT, 8, 4);
        for (int s = 0; s < 17; s++) {
            kept(x, DATA, 8192, 4);
        }
        // With DATA at 8 the ways are 131072 and 131064: one island makes the second too far.
        x.relocation(0, 4, NEAR, x.symbol(16, 8188, 0, LOCAL), 4);
        x.relocation(0, 0, NEAR, x.symbol(16, 8188, 1, LOCAL), -128);
        x.relocation(0, 4, NEAR, 0, -4);
        Check.is("bytes", 8 + 16 + 17 * 8192, x.link(0));
        isAbout("two islands", x, 1, 18, 0, 2, 8, 2, 24 + 17 * 8192, 3);
        Check.is("the first one's address, as all is now", 24 + 131072, x.at(8));
        Check.is("the second one's", 24 + 131068 - 4, x.at(16));
        Check.is("one needs none", (24 + 131068 - 128 - 4) / 4, x.at(0));
    }

    /** A TEXT section with NEAR relocations to so many targets that are too far. */
    private static LinkYard targets(int count) {
        LinkYard x = yard(NONE);
        kept(x, TEXT, 4, 4);
        x.other(0, ABSOLUTE, 1 << 30, 0, LOCAL);
        for (int i = 0; i < count; i++) {
            x.relocation(0, 0, NEAR, 0, 4 * i);
        }
        return x;
    }

    /** Terms: 4 MUCH: a 33rd island. */
    private static void thirtyTwo() {
        LinkYard x = targets(31);
        x.link(0);
        isAbout("31", x, 1, 1, 0, 31, 4, 31, 4 + 31 * 8, 32);
        LinkYard y = targets(32);
        Check.is("32", 4 + 32 * 8, y.link(0));
        isAbout("32", y, 1, 1, 0, 32, 4, 32, 4 + 32 * 8, 33);
        Check.is("the last one", (1 << 30) + 124, y.at(4 + 31 * 8));
        Check.is("its second word", 0, y.at(8 + 31 * 8));
        faults("33", targets(33), MUCH, NONE, NONE);
        faults("34", targets(34), MUCH, NONE, NONE);
    }

    /** Terms: a new one behind the others if there is none: an old one is no 33rd. */
    private static void thirtyThirdOnlyIfNew() {
        LinkYard x = targets(32);
        x.relocation(0, 0, NEAR, 0, 0);
        x.relocation(0, 0, NEAR, 0, 124);
        Check.is("old ones", 4 + 32 * 8, x.link(0));
        isAbout("old ones", x, 1, 1, 0, 32, 4, 34, 4 + 32 * 8, 35);
        x.relocation(0, 0, NEAR, x.other(0, ABSOLUTE, 128, 1, LOCAL), 0);
        Check.is("one that is near", 4 + 32 * 8, x.link(0));
        x.relocation(0, 0, NEAR, 1, 1);
        faults("a new one", x, MUCH, NONE, NONE);
        x.keep(0, false);
        Check.is("not reached", 0, x.link(0));
    }

    /** Terms: 4 MUCH .. (as it is met, ahead of FAR). */
    private static void muchAheadOfFar() {
        LinkYard x = yard(NONE);
        kept(x, DATA, 4, 4);
        for (int s = 0; s < 17; s++) {
            kept(x, TEXT, 8192, 4);
        }
        x.other(0, ABSOLUTE, 1 << 30, 0, LOCAL);
        x.relocation(0, 0, NEAR, 0, 0);
        x.relocation(0, 0, JUMP, 0, 1);
        for (int i = 0; i < 32; i++) {
            x.relocation(1, 0, NEAR, 0, i);
        }
        faults("FAR with 32 islands", x, FAR, NONE, 0);
        x.relocation(1, 0, NEAR, 0, 32);
        faults("MUCH", x, MUCH, NONE, NONE);
    }

    /** Terms: Fault 3 FAR: the first NEAR one that goes to an island and whose way isn't such. */
    private static void farthestIsland() {
        LinkYard x = longText();
        x.other(0, ABSOLUTE, 1 << 30, 1, LOCAL);
        x.relocation(0, 4, NEAR, 1, 0);
        Check.is("the island is 131068 on", 131076 + 8, x.link(0));
        Check.is("the branch", 0x7FFF, x.at(4));
        x.relocation(0, 12, NEAR, 1, 4);
        Check.is("the second island is as far from 12", 131076 + 16, x.link(0));
        Check.is("the branch", 0x7FFF, x.at(12));
        x.relocation(0, 8, NEAR, 1, 4);
        faults("131072 from 8", x, FAR, NONE, 2);
        x.relocation(0, 0, NEAR, 1, 0);
        faults("the first one of two", x, FAR, NONE, 2);
    }

    /** A DATA section of 8 bytes with a NEAR relocation at 4. */
    private static LinkYard data(int number, int addend) {
        LinkYard x = yard(NONE);
        kept(x, DATA, 8, 4);
        x.relocation(0, 4, NEAR, x.other(0, ABSOLUTE, number, 0, LOCAL), addend);
        return x;
    }

    /** Terms: .. or one in a DATA section whose way to its target isn't. */
    private static void farDataOn() {
        for (int way : new int[] {0, 4, 131064, 131068}) {
            LinkYard x = data(8 + way, 0);
            Check.is("way " + way, 8, x.link(0));
            Check.is("the branch", way / 4, x.at(4));
            Check.is("the addend counts", 8, data(8, way).link(0));
        }
        for (int way : new int[] {131072, 131076, 1 << 30}) {
            faults("way " + way, data(8 + way, 0), FAR, NONE, 0);
            faults("way " + way, data(8, way), FAR, NONE, 0);
        }
    }

    /** Terms: .. not -131072 .. 131068, in a DATA section. */
    private static void farDataBack() {
        for (int way : new int[] {-4, -131068, -131072}) {
            LinkYard x = data(BASE + 8 + way, 0);
            Check.is("way " + way, 8, x.link(BASE));
            Check.is("the branch", way / 4 & 0xFFFF, x.at(BASE + 4));
        }
        for (int way : new int[] {-131076, -131080, LEAST}) {
            faults("way " + way, data(8 + way, 0), FAR, NONE, 0);
        }
        LinkYard x = longText();
        kept(x, DATA, 4, 4);
        x.relocation(17, 0, NEAR, 0, 8);
        Check.is("TEXT that is 131072 back", 131080, x.link(0));
        Check.is("the branch", 0x8000, x.at(131076));
        x.relocation(17, 0, NEAR, 0, 4);
        faults("TEXT that is 131076 back", x, FAR, NONE, 1);
    }

    /** Terms: is no multiple of 4, in a DATA section. */
    private static void farDataNoMultiple() {
        for (int way : new int[] {1, 2, 3, -1, -2, -3, 131067, 131069, -131071, -131073}) {
            faults("way " + way, data(8 + way, 0), FAR, NONE, 0);
        }
        Check.is("S + A is a multiple", 8, data(3, 1).link(0));
        Check.is("S + A wraps to one", 8, data(GREATEST, 1 - LEAST).link(0));
    }

    /** Terms: of reached sections alone. */
    private static void farOnlyIfReached() {
        LinkYard x = data(1, 0);
        x.keep(0, false);
        Check.is("not reached", 0, x.link(0));
        LinkYard y = branch(1, 0);
        y.keep(0, false);
        Check.is("not reached", 0, y.link(0));
        Check.is("no islands", 0, y.about(3));
    }

    /** Terms: the first NEAR one, by sections and then relocations. */
    private static void firstFar() {
        LinkYard x = longText();
        kept(x, DATA, 8, 4);
        x.other(0, ABSOLUTE, 1 << 30, 1, LOCAL);
        x.relocation(17, 0, NEAR, 1, 0);
        faults("of the DATA section", x, FAR, NONE, 0);
        x.relocation(17, 4, NEAR, 1, 0);
        faults("the first one still", x, FAR, NONE, 0);
        x.relocation(0, 0, NEAR, 1, 0);
        faults("of a section before", x, FAR, NONE, 2);
    }

    /** Terms: NEAR: W's lower half is that of (T - P - 4) / 4. */
    private static void nearHalves() {
        for (int way : new int[] {0, 4, -4, 131068, -131072}) {
            LinkYard x = data(BASE + 8 + way, 0);
            x.word(0, 4, -1);
            x.link(BASE);
            Check.is("way " + way, 0xFFFF0000 | way / 4 & 0xFFFF, x.at(BASE + 4));
        }
    }
}
