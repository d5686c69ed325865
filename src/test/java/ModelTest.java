import java.util.Arrays;
import java.util.Random;

/** Many runs of calls on a LinkYard and on the ModelYard side by side: all answers are alike. */
public final class ModelTest {
    private static final int RUNS = 4000;
    private static final int[] seen = new int[6];
    private static int folded, island, groupedIn;

    private final LinkYard yard = new LinkYard();
    private final ModelYard model = new ModelYard();
    private final Random random;
    private final int run;
    private final int flavour;
    private final int nameCount;

    private ModelTest(int run) {
        this.run = run;
        random = new Random(run);
        flavour = run % 4;
        nameCount = flavour == 1 ? 60 : 4 + random.nextInt(12);
    }

    public static void main(String[] args) {
        for (int run = 0; run < RUNS; run++) {
            new ModelTest(run).go();
        }
        System.out.println("links by faults " + Arrays.toString(seen) + ", with folded sections "
                + folded + ", with islands " + island + ", with grouped members " + groupedIn);
        // The runs are worth little unless they meet every fault and every step.
        for (int kind = 0; kind <= 5; kind++) {
            Check.is("fault " + kind + " is met often", true, seen[kind] > 50);
        }
        Check.is("folding is met often", true, folded > 200);
        Check.is("islands are met often", true, island > 50);
        Check.is("grouped members are met often", true, groupedIn > 50);
        Check.end();
    }

    private int upTo(int bound) {
        return random.nextInt(bound);
    }

    private boolean oneIn(int n) {
        return random.nextInt(n) == 0;
    }

    private void same(String call, Check.Call due, Check.Call got) {
        Check.is("run " + run + " " + call, Check.outcome(due), Check.outcome(got));
    }

    private void go() {
        int rounds = 1 + upTo(3);
        for (int round = 0; round < rounds; round++) {
            tellMuch();
            int links = 1 + upTo(3);
            for (int i = 0; i < links; i++) {
                linkAndAsk();
                tellLittle();
            }
            if (oneIn(2)) {
                yard.clear();
                model.clear();
                linkAndAsk();
            }
        }
    }

    private void tellMuch() {
        int units = 1 + upTo(flavour == 3 ? 12 : 5);
        for (int i = 0; i < units; i++) {
            tellUnit(i == 0 || !oneIn(flavour == 3 ? 1 : 3) ? -1 : upTo(4));
        }
        if (flavour == 3) {
            for (int i = 0; i < 6; i++) {
                tellUnit(upTo(4));
            }
        }
        int sections = flavour == 1 ? 36 + upTo(40) : 1 + upTo(flavour == 2 ? 4 : 14);
        for (int i = 0; i < sections; i++) {
            tellSection();
        }
        for (int i = upTo(flavour == 2 ? 6 : 30); i > 0; i--) {
            tellWord();
        }
        // Few loose ends in some of the runs with twins: a link with a fault folds nothing.
        boolean few = run % 8 == 6;
        for (int i = few ? upTo(8) : 4 + upTo(60); i > 0; i--) {
            tellSymbol();
        }
        if (flavour == 2) {
            tellTwins();
        }
        if (flavour == 0 && run % 8 == 0) {
            tellBorder();
        }
        for (int i = few ? upTo(6) : 2 + upTo(flavour == 1 ? 160 : 40); i > 0; i--) {
            tellRelocation();
        }
        for (int i = upTo(8); i > 0; i--) {
            tellKeep();
        }
        tellEntry();
        tellFold();
    }

    private void tellLittle() {
        switch (upTo(9)) {
            case 0:
                tellUnit(upTo(6) - 1);
                break;
            case 1:
                tellSection();
                break;
            case 2:
                tellWord();
                break;
            case 3:
                tellSymbol();
                break;
            case 4:
                tellRelocation();
                break;
            case 5:
                tellKeep();
                break;
            case 6:
                tellEntry();
                break;
            case 7:
                tellFold();
                break;
            default:
                break;
        }
    }

    private void tellUnit(int archive) {
        same("unit " + archive, () -> model.unit(archive), () -> yard.unit(archive));
    }

    private int anyUnit() {
        return oneIn(60) ? upTo(30) - 2 : upTo(Math.max(1, model.archives.size()));
    }

    private int anySection() {
        return oneIn(60) ? upTo(100) - 2 : upTo(Math.max(1, model.sections.size()));
    }

    private void tellSection() {
        int unit = anyUnit();
        int kind = oneIn(80) ? upTo(9) - 3 : flavour == 2 ? upTo(5) / 4 : upTo(3);
        int size = oneIn(80) ? upTo(20000) - 5000
                : flavour == 1 ? (oneIn(2) ? 8192 : 4 * upTo(2049)) : 4 * upTo(flavour == 2 ? 3 : 9);
        int alignment = oneIn(80) ? upTo(9000) - 100 : oneIn(flavour == 1 ? 2 : 9)
                ? 4 << upTo(11) : 4;
        same("section " + unit + " " + kind + " " + size + " " + alignment,
                () -> model.section(unit, kind, size, alignment),
                () -> yard.section(unit, kind, size, alignment));
    }

    private int anyPlace(int section) {
        int size = section >= 0 && section < model.sections.size()
                ? model.sections.get(section).size : 0;
        return oneIn(60) ? upTo(size + 20) - 8 : 4 * upTo(Math.max(1, size / 4));
    }

    private void tellWord() {
        int section = anySection();
        int place = anyPlace(section);
        int v = flavour == 2 ? upTo(2) : random.nextInt();
        same("word " + section + " " + place, () -> {
            model.word(section, place, v);
            return 0;
        }, () -> {
            yard.word(section, place, v);
            return 0;
        });
    }

    private int anyName() {
        return oneIn(80) ? upTo(300) - 50 : upTo(nameCount);
    }

    private int anyBinding() {
        return oneIn(40) ? upTo(7) - 2 : flavour == 2 && oneIn(2) ? 0 : new int[] {0, 1, 2}[upTo(3)];
    }

    private void tellSymbol() {
        int name = anyName();
        if (oneIn(3)) {
            tellOther(name);
            return;
        }
        int section = anySection();
        int place = oneIn(12) ? anyPlace(section) + upTo(6) : oneIn(2) ? 0 : anyPlace(section);
        int binding = anyBinding();
        same("symbol " + section + " " + place + " " + name + " " + binding,
                () -> model.symbol(section, place, name, binding),
                () -> yard.symbol(section, place, name, binding));
    }

    private void tellOther(int name) {
        int unit = anyUnit();
        int sort = oneIn(60) ? upTo(9) - 3 : upTo(3);
        int v = sort == 2 && !oneIn(20) ? 4 * (1 + upTo(oneIn(2) ? 2048 : 8))
                : oneIn(3) ? random.nextInt() : 4 * upTo(100000);
        int binding = oneIn(40) ? upTo(7) - 2 : sort == 2 ? 3 : sort == 1 ? upTo(3) : 1 + upTo(2);
        same("other " + unit + " " + sort + " " + v + " " + name + " " + binding,
                () -> model.other(unit, sort, v, name, binding),
                () -> yard.other(unit, sort, v, name, binding));
    }

    /** A symbol of the section's unit, for the most part. */
    private int fittingSymbol(int section) {
        int count = Math.max(1, model.symbols.size());
        int symbol = upTo(count);
        for (int i = 0; i < count && !oneIn(60); i++) {
            boolean fits = section >= 0 && section < model.sections.size()
                    && symbol < model.symbols.size()
                    && model.symbols.get(symbol).unit == model.sections.get(section).unit;
            if (fits) {
                return symbol;
            }
            symbol = (symbol + 1) % count;
        }
        return oneIn(9) ? upTo(500) - 50 : symbol;
    }

    private void tellRelocation() {
        int section = anySection();
        int place = oneIn(3) ? anyPlace(section) : 0;
        int sort = oneIn(60) ? upTo(12) - 3 : flavour == 1 ? (oneIn(4) ? upTo(5) : 4) : upTo(6);
        int symbol = fittingSymbol(section);
        int addend = oneIn(30) ? random.nextInt()
                : oneIn(flavour == 1 && run % 8 == 1 ? 1 : 4) ? 4 * (upTo(99) - 40) : 0;
        same("relocation " + section + " " + place + " " + sort + " " + symbol + " " + addend,
                () -> model.relocation(section, place, sort, symbol, addend),
                () -> yard.relocation(section, place, sort, symbol, addend));
    }

    /** Sections of one look that point at each other's fellows, so that many may be folded. */
    private void tellTwins() {
        int first = model.sections.size();
        int firstSymbol = model.symbols.size();
        int count = 2 + upTo(10);
        for (int i = 0; i < count; i++) {
            int s = first + i;
            int name = anyName();
            same("twin", () -> model.section(0, 0, 8, 4), () -> yard.section(0, 0, 8, 4));
            same("twin's symbol", () -> model.symbol(s, 0, name, 0),
                    () -> yard.symbol(s, 0, name, 0));
        }
        for (int i = 0; i < count; i++) {
            int s = first + i;
            int sort = oneIn(9) ? 0 : 4;
            int to = firstSymbol + (oneIn(6) ? upTo(count) : (i + 2) % count);
            same("twin's pointer", () -> model.relocation(s, 0, sort, to, 0),
                    () -> yard.relocation(s, 0, sort, to, 0));
        }
        int words = model.sections.size();
        same("list", () -> model.section(0, 1, 64, 4), () -> yard.section(0, 1, 64, 4));
        for (int i = 0; i < count; i++) {
            int place = 4 * i;
            int to = firstSymbol + i;
            same("list's pointer", () -> model.relocation(words, place, 0, to, 0),
                    () -> yard.relocation(words, place, 0, to, 0));
        }
        tellKept(words, true);
    }

    /** Branches to places about as far as a branch can go, where each island pushes more away. */
    private void tellBorder() {
        int text = model.sections.size();
        int firstSymbol = model.symbols.size();
        same("text", () -> model.section(0, 0, 256, 4), () -> yard.section(0, 0, 256, 4));
        for (int i = 0; i < 18; i++) {
            same("data", () -> model.section(0, 1, 8192, 4), () -> yard.section(0, 1, 8192, 4));
        }
        int branches = 10 + upTo(60);
        int spread = 1 + upTo(90);
        for (int i = 0; i < branches && i < 64; i++) {
            int far = 131072 - 100 + 4 * i + 4 * upTo(spread) - 2 * spread;
            int section = text + 1 + far / 8192;
            int place = far % 8192;
            int at = 4 * i;
            int to = firstSymbol + i;
            same("far symbol", () -> model.symbol(section, place, 1, 0),
                    () -> yard.symbol(section, place, 1, 0));
            same("branch", () -> model.relocation(text, at, 4, to, 0),
                    () -> yard.relocation(text, at, 4, to, 0));
        }
        for (int i = 0; i <= 18; i++) {
            tellKept(text + i, true);
        }
    }

    private void tellKeep() {
        tellKept(anySection(), !oneIn(4));
    }

    private void tellKept(int section, boolean is) {
        same("keep " + section, () -> {
            model.keep(section, is);
            return 0;
        }, () -> {
            yard.keep(section, is);
            return 0;
        });
    }

    private void tellEntry() {
        int name = oneIn(3) ? -1 : anyName();
        same("entry " + name, () -> {
            model.entry(name);
            return 0;
        }, () -> {
            yard.entry(name);
            return 0;
        });
    }

    private void tellFold() {
        boolean folds = flavour == 2 ? !oneIn(5) : oneIn(2);
        boolean groups = oneIn(2);
        model.fold(folds, groups);
        yard.fold(folds, groups);
    }

    private void linkAndAsk() {
        int base = oneIn(20) ? random.nextInt(3000000) - 1000000 : 4096 * upTo(257);
        same("link " + base, () -> model.link(base), () -> yard.link(base));
        for (int what = -1; what <= 3; what++) {
            int w = what;
            same("fault " + w, () -> model.fault(w), () -> yard.fault(w));
        }
        seen[model.faultKind]++;
        if (model.linked) {
            folded += model.about(2) > 0 ? 1 : 0;
            island += model.about(3) > 0 ? 1 : 0;
            groupedIn += model.groups && model.in.size() > 1 ? 1 : 0;
        }
        for (int n = -2; n <= 200; n++) {
            askOf(n);
        }
        askWords();
    }

    private void askOf(int n) {
        same("common " + n, () -> model.common(n), () -> yard.common(n));
        if (n <= 10) {
            same("about " + n, () -> model.about(n), () -> yard.about(n));
        }
        if (n <= model.archives.size()) {
            same("isIn " + n, () -> model.isIn(n), () -> yard.isIn(n));
        }
        if (n <= model.sections.size()) {
            same("address " + n, () -> model.address(n), () -> yard.address(n));
            same("like " + n, () -> model.like(n), () -> yard.like(n));
        }
        if (n <= model.symbols.size()) {
            for (int what = -1; what <= 3; what++) {
                int w = what;
                same("means " + n + " " + w, () -> model.means(n, w), () -> yard.means(n, w));
            }
        }
    }

    private void askWords() {
        int from = model.linked ? model.base - 8 : 0;
        int to = model.linked ? model.end + 8 : 8;
        int step = 4 * (1 + upTo(Math.max(1, (to - from) / 2000)));
        for (int address = from; address <= to; address += step) {
            askWord(address);
        }
        askWord(from + 9);
        if (!model.linked) {
            return;
        }
        for (int i = 0; i < 2 * model.islands.size() + 2; i++) {
            askWord(model.islandsAt + 4 * i);
        }
        for (ModelYard.Section s : model.sections) {
            for (ModelYard.Relocation r : s.relocations) {
                askWord(s.address + r.place);
            }
        }
    }

    private void askWord(int address) {
        same("at " + address, () -> model.at(address), () -> yard.at(address));
    }
}
