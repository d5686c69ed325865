import java.util.ArrayList;
import java.util.HashMap;
import java.util.List;
import java.util.Map;
import java.util.TreeMap;
import java.util.TreeSet;

/**
 * The document's terms once more, as literally as can be and with no thought of speed: a second
 * opinion for ModelTest. It shares no code and no way of holding things with LinkYard.
 */
final class ModelYard {
    static final class Section {
        int number, unit, kind, size, alignment, address;
        boolean kept, reached;
        int[] words;
        Section stays;
        final List<Relocation> relocations = new ArrayList<>();
    }

    static final class Symbol {
        int number, unit, name, binding, v;
        char form; // s section, u undefined, a absolute, c common
        Section section;
    }

    static final class Relocation {
        int number, place, sort, addend;
        Section section;
        Symbol symbol;
        String island;
    }

    /** What a symbol means: kind as means() tells it, with section and place, number, or name. */
    record Meaning(int kind, Section section, int v) {
    }

    static final class Fault extends RuntimeException {
        private static final long serialVersionUID = 1L;
        final int kind, name, relocation;

        Fault(int kind, int name, int relocation) {
            this.kind = kind;
            this.name = name;
            this.relocation = relocation;
        }
    }

    final List<Integer> archives = new ArrayList<>();
    final List<Section> sections = new ArrayList<>();
    final List<Symbol> symbols = new ArrayList<>();
    int relocationCount, entry = -1;
    boolean folds, groups;

    boolean linked;
    int faultKind, faultName = -1, faultRelocation = -1;
    TreeSet<Integer> in;
    TreeMap<Integer, Meaning> definitions;
    TreeMap<Integer, Integer> commonSizes;
    TreeMap<Integer, Integer> commonAddresses;
    TreeSet<Integer> commonReached;
    List<String> islands;
    Map<String, Relocation> islandMakers;
    TreeMap<Integer, Integer> memory;
    int base, end, laid, islandsAt;

    private void told() {
        linked = false;
        faultKind = 0;
        faultName = -1;
        faultRelocation = -1;
    }

    private static void demand(boolean holds) {
        if (!holds) {
            throw new IllegalArgumentException();
        }
    }

    private static void allow(boolean holds) {
        if (!holds) {
            throw new UnsupportedOperationException();
        }
    }

    int unit(int archive) {
        demand(archive >= -1 && archive <= 3);
        allow(archives.size() < 24);
        told();
        archives.add(archive);
        return archives.size() - 1;
    }

    int section(int unit, int kind, int size, int alignment) {
        demand(unit >= 0 && unit < archives.size() && kind >= 0 && kind <= 2);
        demand(size >= 0 && size <= 8192 && (size & 3) == 0);
        demand(List.of(4, 8, 16, 32, 64, 128, 256, 512, 1024, 2048, 4096).contains(alignment));
        allow(sections.size() < 96 && sections.stream().mapToInt(s -> s.size).sum() + size <= 400000);
        told();
        Section s = new Section();
        s.number = sections.size();
        s.unit = unit;
        s.kind = kind;
        s.size = size;
        s.alignment = alignment;
        s.words = new int[size / 4];
        sections.add(s);
        return s.number;
    }

    private Section sectionWithPlace(int section, int place) {
        demand(section >= 0 && section < sections.size());
        Section s = sections.get(section);
        demand(s.kind != 2 && place >= 0 && place < s.size && (place & 3) == 0);
        return s;
    }

    void word(int section, int place, int v) {
        Section s = sectionWithPlace(section, place);
        told();
        s.words[place / 4] = v;
    }

    private int addSymbol(int unit, char form, Section section, int v, int name, int binding) {
        demand(name >= 0 && name <= 199);
        demand(binding == 0 || symbols.stream().noneMatch(
                s -> s.unit == unit && s.name == name && s.binding != 0));
        allow(symbols.size() < 400);
        told();
        Symbol s = new Symbol();
        s.number = symbols.size();
        s.unit = unit;
        s.form = form;
        s.section = section;
        s.v = v;
        s.name = name;
        s.binding = binding;
        symbols.add(s);
        return s.number;
    }

    int symbol(int section, int place, int name, int binding) {
        demand(section >= 0 && section < sections.size());
        Section s = sections.get(section);
        demand(place >= 0 && place <= s.size && binding >= 0 && binding <= 2);
        return addSymbol(s.unit, 's', s, place, name, binding);
    }

    int other(int unit, int sort, int v, int name, int binding) {
        demand(unit >= 0 && unit < archives.size() && sort >= 0 && sort <= 2);
        demand(sort != 0 || binding == 1 || binding == 2);
        demand(sort != 1 || binding == 0 || binding == 1 || binding == 2);
        demand(sort != 2 || binding == 3 && v >= 4 && v <= 8192 && (v & 3) == 0);
        return addSymbol(unit, "uac".charAt(sort), null, v, name, binding);
    }

    int relocation(int section, int place, int sort, int symbol, int addend) {
        Section s = sectionWithPlace(section, place);
        demand(sort >= 0 && sort <= 5 && symbol >= 0 && symbol < symbols.size());
        demand(symbols.get(symbol).unit == s.unit);
        allow(relocationCount < 600);
        told();
        Relocation r = new Relocation();
        r.number = relocationCount++;
        r.section = s;
        r.place = place;
        r.sort = sort;
        r.symbol = symbols.get(symbol);
        r.addend = addend;
        s.relocations.add(r);
        return r.number;
    }

    void entry(int name) {
        demand(name >= -1 && name <= 199);
        told();
        entry = name;
    }

    void keep(int section, boolean is) {
        demand(section >= 0 && section < sections.size());
        told();
        sections.get(section).kept = is;
    }

    void fold(boolean toFold, boolean toGroup) {
        told();
        folds = toFold;
        groups = toGroup;
    }

    void clear() {
        told();
        archives.clear();
        sections.clear();
        symbols.clear();
        relocationCount = 0;
        entry = -1;
        folds = false;
        groups = false;
    }

    int link(int from) {
        demand(from >= 0 && from <= 1048576 && (from & 4095) == 0);
        told();
        base = from;
        try {
            comeIn();
            define();
            reach();
            foldLike();
            buildIslands();
            checkWays();
            mend();
        } catch (Fault f) {
            faultKind = f.kind;
            faultName = f.name;
            faultRelocation = f.relocation;
            return -1;
        }
        linked = true;
        return end - base;
    }

    private boolean hasDefined(int unit, int name, String bindings) {
        return symbols.stream().anyMatch(s -> s.unit == unit && s.name == name && s.form != 'u'
                && bindings.indexOf('0' + s.binding) >= 0);
    }

    private TreeSet<Integer> needed() {
        TreeSet<Integer> names = new TreeSet<>();
        for (Symbol s : symbols) {
            if (in.contains(s.unit) && s.form == 'u' && s.binding == 1) {
                names.add(s.name);
            }
        }
        if (entry != -1) {
            names.add(entry);
        }
        names.removeIf(name -> in.stream().anyMatch(u -> hasDefined(u, name, "123")));
        return names;
    }

    private boolean oneComesIn(int archive) {
        for (int u = 0; u < archives.size(); u++) {
            final int unit = u;
            if (archives.get(u) == archive && !in.contains(u)
                    && needed().stream().anyMatch(name -> hasDefined(unit, name, "13"))) {
                in.add(u);
                return true;
            }
        }
        return false;
    }

    private void comeIn() {
        in = new TreeSet<>();
        for (int u = 0; u < archives.size(); u++) {
            if (archives.get(u) == -1) {
                in.add(u);
            }
        }
        boolean again = true;
        while (again) {
            int before = in.size();
            for (int a = 0; a < 4; a++) {
                while (oneComesIn(a)) {
                    continue;
                }
            }
            again = groups && in.size() > before;
        }
    }

    private List<Symbol> definers(int name, int binding) {
        List<Symbol> found = new ArrayList<>();
        for (int u : in) {
            for (Symbol s : symbols) {
                if (s.unit == u && s.name == name && s.binding == binding && s.form != 'u') {
                    found.add(s);
                }
            }
        }
        return found;
    }

    private static Meaning itself(Symbol s) {
        return s.form == 's' ? new Meaning(1, s.section, s.v) : new Meaning(2, null, s.v);
    }

    private void define() {
        definitions = new TreeMap<>();
        commonSizes = new TreeMap<>();
        for (int name = 0; name < 200; name++) {
            List<Symbol> globals = definers(name, 1);
            List<Symbol> commons = definers(name, 3);
            List<Symbol> weaks = definers(name, 2);
            if (globals.size() > 1) {
                throw new Fault(1, name, -1);
            }
            if (!globals.isEmpty()) {
                definitions.put(name, itself(globals.get(0)));
            } else if (!commons.isEmpty()) {
                definitions.put(name, new Meaning(3, null, name));
                commonSizes.put(name, commons.stream().mapToInt(s -> s.v).max().getAsInt());
            } else if (!weaks.isEmpty()) {
                definitions.put(name, itself(weaks.get(0)));
            }
        }
    }

    Meaning meaning(Symbol s) {
        if (s.binding == 0) {
            return itself(s);
        }
        if (definitions.containsKey(s.name)) {
            return definitions.get(s.name);
        }
        return s.binding == 2 ? new Meaning(2, null, 0) : new Meaning(0, null, 0);
    }

    private void reach() {
        if (entry != -1 && !definitions.containsKey(entry)) {
            throw new Fault(2, entry, -1);
        }
        for (Section s : sections) {
            s.reached = s.kept && in.contains(s.unit)
                    || entry != -1 && definitions.get(entry).section() == s;
        }
        commonReached = new TreeSet<>();
        for (int round = 0; round <= sections.size(); round++) {
            for (Section s : sections) {
                for (Relocation r : s.relocations) {
                    if (s.reached) {
                        Meaning m = meaning(r.symbol);
                        if (m.kind() == 1) {
                            m.section().reached = true;
                        } else if (m.kind() == 3) {
                            commonReached.add(m.v());
                        }
                    }
                }
            }
        }
        for (Section s : sections) {
            for (Relocation r : s.relocations) {
                if (s.reached && r.symbol.form == 'u' && r.symbol.binding != 2
                        && !definitions.containsKey(r.symbol.name)) {
                    throw new Fault(2, r.symbol.name, r.number);
                }
            }
        }
    }

    /** By pairs: all alike at first, and a pair is struck out as soon as it has to be. */
    private void foldLike() {
        int n = sections.size();
        boolean[][] alike = new boolean[n][n];
        for (int a = 0; a < n; a++) {
            for (int b = 0; b < n; b++) {
                alike[a][b] = a == b || folds && canFold(sections.get(a))
                        && canFold(sections.get(b));
            }
        }
        boolean struck = true;
        while (struck) {
            struck = false;
            for (int a = 0; a < n; a++) {
                for (int b = 0; b < n; b++) {
                    if (a != b && alike[a][b] && !matches(sections.get(a), sections.get(b), alike)) {
                        alike[a][b] = false;
                        struck = true;
                    }
                }
            }
        }
        for (Section s : sections) {
            s.stays = s;
            for (int t = s.number; t >= 0; t--) {
                if (alike[s.number][t]) {
                    s.stays = sections.get(t);
                }
            }
        }
    }

    private static boolean canFold(Section s) {
        return s.reached && s.kind == 0 && !s.kept;
    }

    private boolean matches(Section a, Section b, boolean[][] alike) {
        if (a.size != b.size || a.alignment != b.alignment
                || !java.util.Arrays.equals(a.words, b.words)
                || a.relocations.size() != b.relocations.size()) {
            return false;
        }
        for (int k = 0; k < a.relocations.size(); k++) {
            Relocation x = a.relocations.get(k);
            Relocation y = b.relocations.get(k);
            Meaning mx = meaning(x.symbol);
            Meaning my = meaning(y.symbol);
            boolean same = mx.kind() == my.kind() && mx.v() == my.v()
                    && (mx.kind() != 1 || alike[mx.section().number][my.section().number]);
            if (x.place != y.place || x.sort != y.sort || x.addend != y.addend || !same) {
                return false;
            }
        }
        return true;
    }

    private static int up(int address, int alignment) {
        return (int) ((address + (long) alignment - 1) / alignment * alignment);
    }

    private void lay() {
        laid++;
        end = base;
        commonAddresses = new TreeMap<>();
        for (Section s : sections) {
            s.address = -1;
        }
        layKind(0);
        islandsAt = end;
        end += 8 * islands.size();
        layKind(1);
        layKind(2);
        for (int name : commonReached) {
            commonAddresses.put(name, end);
            end += commonSizes.get(name);
        }
        for (Section s : sections) {
            s.address = s.stays.address;
        }
    }

    private void layKind(int kind) {
        for (Section s : sections) {
            if (s.reached && s.kind == kind && s.stays == s) {
                s.address = up(end, s.alignment);
                end = s.address + s.size;
            }
        }
    }

    int addressOf(Meaning m) {
        switch (m.kind()) {
            case 1:
                return m.section().reached ? m.section().address + m.v() : 0;
            case 2:
                return m.v();
            case 3:
                return commonAddresses.getOrDefault(m.v(), 0);
            default:
                return 0;
        }
    }

    private int target(Relocation r) {
        return addressOf(meaning(r.symbol)) + r.addend;
    }

    private static boolean farWay(Relocation r, int to) {
        long way = to - (r.section.address + (long) r.place + 4);
        return Math.floorMod(way, 4L) != 0 || way < -131072 || way > 131068;
    }

    private String islandKey(Relocation r) {
        Meaning m = meaning(r.symbol);
        switch (m.kind()) {
            case 1:
                return "section " + m.section().stays.number + " " + (m.v() + r.addend);
            case 2:
                return "number " + (m.v() + r.addend);
            default:
                return "common " + m.v() + " " + r.addend;
        }
    }

    private int islandAddress(Relocation r) {
        return islandsAt + 8 * islands.indexOf(r.island);
    }

    private void buildIslands() {
        islands = new ArrayList<>();
        islandMakers = new HashMap<>();
        for (Section s : sections) {
            for (Relocation r : s.relocations) {
                r.island = null;
            }
        }
        laid = 0;
        lay();
        while (oneGoesToAnIsland()) {
            lay();
        }
    }

    private boolean oneGoesToAnIsland() {
        for (Section s : sections) {
            for (Relocation r : s.relocations) {
                if (s.reached && s.kind == 0 && s.stays == s && r.sort == 4 && r.island == null
                        && farWay(r, target(r))) {
                    r.island = islandKey(r);
                    if (!islands.contains(r.island)) {
                        islands.add(r.island);
                        islandMakers.put(r.island, r);
                    }
                    if (islands.size() == 33) {
                        throw new Fault(4, -1, -1);
                    }
                    return true;
                }
            }
        }
        return false;
    }

    private void checkWays() {
        for (Section s : sections) {
            for (Relocation r : s.relocations) {
                boolean far = r.sort == 4 && s.reached && s.stays == s
                        && (r.island != null && farWay(r, islandAddress(r))
                            || s.kind == 1 && farWay(r, target(r)));
                if (far) {
                    throw new Fault(3, -1, r.number);
                }
            }
        }
    }

    private void mend() {
        memory = new TreeMap<>();
        for (int i = 0; i < islands.size(); i++) {
            memory.put(islandsAt + 8 * i, target(islandMakers.get(islands.get(i))));
        }
        for (Section s : sections) {
            if (s.reached && s.stays == s && s.kind != 2) {
                for (int i = 0; i < s.words.length; i++) {
                    memory.put(s.address + 4 * i, s.words[i]);
                }
                for (Relocation r : s.relocations) {
                    memory.put(s.address + r.place, mended(r, memory.get(s.address + r.place)));
                }
            }
        }
    }

    private int mended(Relocation r, int w) {
        int sa = target(r);
        int p = r.section.address + r.place;
        int high = w / 65536 * 65536 - (w < 0 && w % 65536 != 0 ? 65536 : 0);
        switch (r.sort) {
            case 0:
                return w + sa;
            case 1:
                return w + sa - p;
            case 2:
                return high + (int) (Integer.toUnsignedLong(sa + 32768) / 65536);
            case 3:
                return high + (int) (Integer.toUnsignedLong(sa) % 65536);
            case 4:
                int t = r.island == null ? sa : islandAddress(r);
                return high + Math.floorMod((t - p - 4) / 4, 65536);
            default:
                if (Math.floorMod(sa, 4) != 0) {
                    throw new Fault(5, -1, r.number);
                }
                long bits = Integer.toUnsignedLong(sa) / 4 % (1L << 26);
                return (int) (Integer.toUnsignedLong(w) / (1L << 26) * (1L << 26) + bits);
        }
    }

    private void needLink() {
        if (!linked) {
            throw new IllegalStateException();
        }
    }

    int fault(int what) {
        demand(what >= 0 && what <= 2);
        return new int[] {faultKind, faultName, faultRelocation}[what];
    }

    boolean isIn(int unit) {
        needLink();
        demand(unit >= 0 && unit < archives.size());
        return in.contains(unit);
    }

    int address(int section) {
        needLink();
        demand(section >= 0 && section < sections.size());
        return sections.get(section).reached ? sections.get(section).address : -1;
    }

    int like(int section) {
        needLink();
        demand(section >= 0 && section < sections.size());
        return sections.get(section).reached ? sections.get(section).stays.number : -1;
    }

    int means(int symbol, int what) {
        needLink();
        demand(symbol >= 0 && symbol < symbols.size() && what >= 0 && what <= 2);
        Symbol s = symbols.get(symbol);
        if (!in.contains(s.unit)) {
            return new int[] {-1, -1, 0}[what];
        }
        Meaning m = meaning(s);
        int section = m.kind() == 1 ? m.section().number : -1;
        return new int[] {m.kind(), section, addressOf(m)}[what];
    }

    int common(int name) {
        needLink();
        demand(name >= 0 && name <= 199);
        return commonAddresses.getOrDefault(name, -1);
    }

    int at(int address) {
        needLink();
        if ((address & 3) != 0 || address < base || address >= end) {
            throw new IndexOutOfBoundsException();
        }
        return memory.getOrDefault(address, 0);
    }

    int about(int what) {
        needLink();
        demand(what >= 0 && what <= 7);
        int reached = (int) sections.stream().filter(s -> s.reached).count();
        int folded = (int) sections.stream().filter(s -> s.stays != s).count();
        int goers = (int) sections.stream().flatMap(s -> s.relocations.stream())
                .filter(r -> r.island != null).count();
        return new int[] {in.size(), reached, folded, islands.size(),
            islands.isEmpty() ? -1 : islandsAt, goers, end, laid}[what];
    }
}
