import java.util.Arrays;

/**
 * Links units and archives: members that are needed, names of four bindings, sections that are
 * reached, like ones made one, a layout, islands for branches that are too far, words that are
 * mended.
 *
 * <p>Every row is made once, in a constructor, and used again by each link; a link makes nothing.
 * What is told stands in Units, Sections, Symbols and Relocations; each step of a link has a class
 * of its own that keeps what the step found, for the calls that ask about it.
 */
public final class LinkYard {
    public static final int NONE = -1;

    private static final int MOST_UNITS = 24;
    private static final int MOST_SECTIONS = 96;
    private static final int MOST_SYMBOLS = 400;
    private static final int MOST_RELOCATIONS = 600;
    private static final int MOST_ISLANDS = 32;
    private static final int MOST_BYTES = 400000;
    private static final int MOST_SIZE = 8192;
    private static final int MOST_ALIGNMENT = 4096;
    private static final int MOST_BASE = 1048576;
    private static final int BASE_STEP = 4096;
    private static final int ARCHIVES = 4;
    private static final int NAMES = 200;
    private static final int WORD_BYTES = 4;
    private static final int ISLAND_BYTES = 8;
    private static final int FIRST_WORDS = 1024;
    private static final int FARTHEST_BACK = -131072;
    private static final int FARTHEST_ON = 131068;

    private static final int TEXT = 0;
    private static final int DATA = 1;
    private static final int ZERO = 2;

    private static final int LOCAL = 0;
    private static final int GLOBAL = 1;
    private static final int WEAK = 2;
    private static final int COMMON = 3;

    // What a symbol is, and what it means: the codes that means() answers.
    private static final int NOTHING = 0;
    private static final int SECTION_PLACE = 1;
    private static final int NUMBER = 2;
    private static final int COMMON_PLACE = 3;

    private static final int SORT_WORD = 0;
    private static final int SORT_RELATIVE = 1;
    private static final int SORT_HIGH = 2;
    private static final int SORT_LOW = 3;
    private static final int SORT_NEAR = 4;
    private static final int SORT_JUMP = 5;

    private static final int FAULT_TWICE = 1;
    private static final int FAULT_MISSING = 2;
    private static final int FAULT_FAR = 3;
    private static final int FAULT_MUCH = 4;
    private static final int FAULT_PLACE = 5;

    private final Units units;
    private final Sections sections;
    private final Symbols symbols;
    private final Relocations relocations;
    private final Arrivals arrivals;
    private final Names names;
    private final Reach reach;
    private final Folding folding;
    private final Layout layout;
    private final Islands islands;
    private final Mending mending;
    private int entryName;
    private boolean folds;
    private boolean groups;
    private boolean linked;
    private int faultKind;
    private int faultName;
    private int faultRelocation;

    public LinkYard() {
        units = new Units();
        sections = new Sections();
        symbols = new Symbols();
        relocations = new Relocations();
        arrivals = new Arrivals(units, symbols);
        names = new Names(units, symbols);
        reach = new Reach(units, sections, relocations, names);
        folding = new Folding(sections, relocations, names, reach);
        layout = new Layout(sections, names, reach, folding);
        islands = new Islands(sections, relocations, names, folding, layout);
        mending = new Mending(sections, relocations, layout, islands);
        entryName = NONE;
        faultName = NONE;
        faultRelocation = NONE;
    }

    // ---- units

    public int unit(int archive) throws IllegalArgumentException, UnsupportedOperationException {
        if (archive != NONE && (archive < 0 || archive >= ARCHIVES)) {
            throw new IllegalArgumentException("no such archive");
        }
        if (units.count >= MOST_UNITS) {
            throw new UnsupportedOperationException("too many units");
        }
        takeLinkAway();
        return units.add(archive);
    }

    public int section(int unit, int kind, int size, int alignment)
            throws IllegalArgumentException, UnsupportedOperationException {
        if (!units.has(unit) || kind < TEXT || kind > ZERO) {
            throw new IllegalArgumentException("no such unit or kind");
        }
        if (!isSize(size, 0) || !isAlignment(alignment)) {
            throw new IllegalArgumentException("no such size or alignment");
        }
        if (sections.count >= MOST_SECTIONS || size > MOST_BYTES - sections.bytes) {
            throw new UnsupportedOperationException("too many sections or bytes");
        }
        takeLinkAway();
        return sections.add(unit, kind, size, alignment);
    }

    public void word(int section, int place, int v) throws IllegalArgumentException {
        if (!sections.hasWord(section, place)) {
            throw new IllegalArgumentException("no such word");
        }
        takeLinkAway();
        sections.write(section, place, v);
    }

    public int symbol(int section, int place, int name, int binding)
            throws IllegalArgumentException, UnsupportedOperationException {
        if (!sections.has(section) || place < 0 || place > sections.size[section]) {
            throw new IllegalArgumentException("no such section or place");
        }
        if (!isName(name) || binding < LOCAL || binding > WEAK) {
            throw new IllegalArgumentException("no such name or binding");
        }
        int unit = sections.unit[section];
        if (symbols.clashes(unit, name, binding)) {
            throw new IllegalArgumentException("the unit has that name already");
        }
        if (symbols.count >= MOST_SYMBOLS) {
            throw new UnsupportedOperationException("too many symbols");
        }
        takeLinkAway();
        int s = symbols.add(unit, name, binding);
        symbols.define(s, SECTION_PLACE, section, place);
        return s;
    }

    public int other(int unit, int sort, int v, int name, int binding)
            throws IllegalArgumentException, UnsupportedOperationException {
        if (!units.has(unit) || !isOther(sort, v, binding) || !isName(name)) {
            throw new IllegalArgumentException("no such unit, sort, binding, name or size");
        }
        if (symbols.clashes(unit, name, binding)) {
            throw new IllegalArgumentException("the unit has that name already");
        }
        if (symbols.count >= MOST_SYMBOLS) {
            throw new UnsupportedOperationException("too many symbols");
        }
        takeLinkAway();
        int s = symbols.add(unit, name, binding);
        symbols.define(s, formOfOther(sort), NONE, v);
        return s;
    }

    public int relocation(int section, int place, int sort, int symbol, int addend)
            throws IllegalArgumentException, UnsupportedOperationException {
        if (!sections.hasWord(section, place) || sort < SORT_WORD || sort > SORT_JUMP) {
            throw new IllegalArgumentException("no such section, place or sort");
        }
        if (!symbols.has(symbol) || symbols.unit[symbol] != sections.unit[section]) {
            throw new IllegalArgumentException("no such symbol of the unit");
        }
        if (relocations.count >= MOST_RELOCATIONS) {
            throw new UnsupportedOperationException("too many relocations");
        }
        takeLinkAway();
        return relocations.add(section, place, sort, symbol, addend);
    }

    public void entry(int name) throws IllegalArgumentException {
        if (name != NONE && !isName(name)) {
            throw new IllegalArgumentException("no such name");
        }
        takeLinkAway();
        entryName = name;
    }

    public void keep(int section, boolean is) throws IllegalArgumentException {
        if (!sections.has(section)) {
            throw new IllegalArgumentException("no such section");
        }
        takeLinkAway();
        sections.kept[section] = is;
    }

    public void fold(boolean folds, boolean groups) {
        takeLinkAway();
        this.folds = folds;
        this.groups = groups;
    }

    public void clear() {
        takeLinkAway();
        units.count = 0;
        sections.forget();
        symbols.count = 0;
        relocations.count = 0;
        entryName = NONE;
        folds = false;
        groups = false;
    }

    // ---- the link

    public int link(int base) throws IllegalArgumentException {
        if (base < 0 || base > MOST_BASE || base % BASE_STEP != 0) {
            throw new IllegalArgumentException("no such base");
        }
        takeLinkAway();
        linked = linksNames() && linksPlaces(base);
        return linked ? layout.end - base : NONE;
    }

    public int fault(int what) throws IllegalArgumentException {
        switch (what) {
            case 0:
                return faultKind;
            case 1:
                return faultName;
            case 2:
                return faultRelocation;
            default:
                throw new IllegalArgumentException("no such what");
        }
    }

    public boolean isIn(int unit) throws IllegalStateException, IllegalArgumentException {
        askLinked();
        if (!units.has(unit)) {
            throw new IllegalArgumentException("no such unit");
        }
        return units.in[unit];
    }

    public int address(int section) throws IllegalStateException, IllegalArgumentException {
        askLinked();
        askSection(section);
        return layout.address[section];
    }

    public int like(int section) throws IllegalStateException, IllegalArgumentException {
        askLinked();
        askSection(section);
        return reach.reached[section] ? folding.leader[section] : NONE;
    }

    public int means(int symbol, int what) throws IllegalStateException, IllegalArgumentException {
        askLinked();
        if (!symbols.has(symbol)) {
            throw new IllegalArgumentException("no such symbol");
        }
        switch (what) {
            case 0:
                return names.meant[symbol];
            case 1:
                return names.meant[symbol] == SECTION_PLACE ? names.where[symbol] : NONE;
            case 2:
                return layout.isLaid(symbol) ? layout.addressOf(symbol) : 0;
            default:
                throw new IllegalArgumentException("no such what");
        }
    }

    public int common(int name) throws IllegalStateException, IllegalArgumentException {
        askLinked();
        if (!isName(name)) {
            throw new IllegalArgumentException("no such name");
        }
        return layout.commonAddress[name];
    }

    public int at(int address) throws IllegalStateException, IndexOutOfBoundsException {
        askLinked();
        if (address % WORD_BYTES != 0 || address < layout.base || address >= layout.end) {
            throw new IndexOutOfBoundsException("no such address");
        }
        return mending.read(address);
    }

    public int about(int what) throws IllegalStateException, IllegalArgumentException {
        askLinked();
        switch (what) {
            case 0:
                return units.countIn();
            case 1:
                return reach.found;
            case 2:
                return folding.countFolded();
            case 3:
                return islands.count;
            case 4:
                return islands.count > 0 ? layout.islandsAt : NONE;
            case 5:
                return islands.goers;
            case 6:
                return layout.end;
            case 7:
                return layout.times;
            default:
                throw new IllegalArgumentException("no such what");
        }
    }

    // ---- what the calls share

    private void takeLinkAway() {
        linked = false;
        faultKind = 0;
        faultName = NONE;
        faultRelocation = NONE;
    }

    private void askLinked() {
        if (!linked) {
            throw new IllegalStateException("nothing is linked");
        }
    }

    private void askSection(int section) {
        if (!sections.has(section)) {
            throw new IllegalArgumentException("no such section");
        }
    }

    private boolean linksNames() {
        relocations.putInOrder(sections.count);
        arrivals.bringIn(entryName, groups);
        names.settle();
        if (names.twice != NONE) {
            return fails(FAULT_TWICE, names.twice, NONE);
        }
        if (entryName != NONE && !names.isDefined(entryName)) {
            return fails(FAULT_MISSING, entryName, NONE);
        }
        reach.spread(entryName == NONE ? NONE : names.sectionOf(entryName));
        int missing = reach.firstMissing();
        if (missing != NONE) {
            return fails(FAULT_MISSING, symbols.name[relocations.symbol[missing]], missing);
        }
        return true;
    }

    private boolean linksPlaces(int base) {
        folding.settle(folds);
        layout.begin(base);
        if (!islands.settle()) {
            return fails(FAULT_MUCH, NONE, NONE);
        }
        int far = mending.firstFar();
        if (far != NONE) {
            return fails(FAULT_FAR, NONE, far);
        }
        int misplaced = mending.firstMisplacedJump();
        if (misplaced != NONE) {
            return fails(FAULT_PLACE, NONE, misplaced);
        }
        return true;
    }

    private boolean fails(int kind, int name, int relocation) {
        faultKind = kind;
        faultName = name;
        faultRelocation = relocation;
        return false;
    }

    private static boolean isName(int name) {
        return name >= 0 && name < NAMES;
    }

    private static boolean isSize(int size, int least) {
        return size >= least && size <= MOST_SIZE && size % WORD_BYTES == 0;
    }

    private static boolean isAlignment(int alignment) {
        return alignment >= WORD_BYTES && alignment <= MOST_ALIGNMENT
                && Integer.bitCount(alignment) == 1;
    }

    private static boolean isOther(int sort, int v, int binding) {
        switch (sort) {
            case 0:
                return binding == GLOBAL || binding == WEAK;
            case 1:
                return binding >= LOCAL && binding <= WEAK;
            case 2:
                return binding == COMMON && isSize(v, WORD_BYTES);
            default:
                return false;
        }
    }

    private static int formOfOther(int sort) {
        switch (sort) {
            case 1:
                return NUMBER;
            case 2:
                return COMMON_PLACE;
            default:
                return NOTHING;
        }
    }

    private static final class Units {
        int count;
        final int[] archive = new int[MOST_UNITS];
        final boolean[] in = new boolean[MOST_UNITS];

        boolean has(int unit) {
            return unit >= 0 && unit < count;
        }

        int add(int ofArchive) {
            archive[count] = ofArchive;
            in[count] = false;
            return count++;
        }

        int countIn() {
            int sum = 0;
            for (int u = 0; u < count; u++) {
                if (in[u]) {
                    sum++;
                }
            }
            return sum;
        }
    }

    private static final class Sections {
        int count;
        int bytes;
        int stored;
        int[] words = new int[FIRST_WORDS];
        final int[] unit = new int[MOST_SECTIONS];
        final int[] kind = new int[MOST_SECTIONS];
        final int[] size = new int[MOST_SECTIONS];
        final int[] alignment = new int[MOST_SECTIONS];
        final int[] firstWord = new int[MOST_SECTIONS];
        final boolean[] kept = new boolean[MOST_SECTIONS];

        boolean has(int section) {
            return section >= 0 && section < count;
        }

        boolean hasWord(int section, int place) {
            return has(section) && kind[section] != ZERO
                    && place >= 0 && place < size[section] && place % WORD_BYTES == 0;
        }

        int add(int ofUnit, int ofKind, int ofSize, int ofAlignment) {
            unit[count] = ofUnit;
            kind[count] = ofKind;
            size[count] = ofSize;
            alignment[count] = ofAlignment;
            firstWord[count] = stored;
            kept[count] = false;
            bytes += ofSize;
            if (ofKind != ZERO) {
                store(ofSize / WORD_BYTES);
            }
            return count++;
        }

        // Words that stood here before clear() are still in the row, so they are zeroed anew.
        private void store(int more) {
            int needed = stored + more;
            if (needed > words.length) {
                words = Arrays.copyOf(words, Math.max(needed, roomier(words.length)));
            }
            Arrays.fill(words, stored, needed, 0);
            stored = needed;
        }

        // Twice as much each time, so that all rows ever made stay small together.
        private static int roomier(int length) {
            return Math.min(2 * length, MOST_BYTES / WORD_BYTES);
        }

        int read(int section, int place) {
            return words[firstWord[section] + place / WORD_BYTES];
        }

        void write(int section, int place, int v) {
            words[firstWord[section] + place / WORD_BYTES] = v;
        }

        void forget() {
            count = 0;
            bytes = 0;
            stored = 0;
        }
    }

    private static final class Symbols {
        int count;
        final int[] unit = new int[MOST_SYMBOLS];
        final int[] name = new int[MOST_SYMBOLS];
        final int[] binding = new int[MOST_SYMBOLS];
        final int[] form = new int[MOST_SYMBOLS];
        final int[] section = new int[MOST_SYMBOLS];
        final int[] value = new int[MOST_SYMBOLS];

        boolean has(int symbol) {
            return symbol >= 0 && symbol < count;
        }

        boolean clashes(int ofUnit, int ofName, int ofBinding) {
            if (ofBinding == LOCAL) {
                return false;
            }
            for (int s = 0; s < count; s++) {
                if (unit[s] == ofUnit && name[s] == ofName && binding[s] != LOCAL) {
                    return true;
                }
            }
            return false;
        }

        int add(int ofUnit, int ofName, int ofBinding) {
            unit[count] = ofUnit;
            name[count] = ofName;
            binding[count] = ofBinding;
            return count++;
        }

        void define(int symbol, int ofForm, int inSection, int ofValue) {
            form[symbol] = ofForm;
            section[symbol] = inSection;
            value[symbol] = ofValue;
        }

        // A LOCAL symbol says nothing about its name to other units, nor does an UNDEFINED one.
        boolean givesName(int symbol) {
            return binding[symbol] != LOCAL && form[symbol] != NOTHING;
        }

        boolean asksForName(int symbol) {
            return binding[symbol] == GLOBAL && form[symbol] == NOTHING;
        }
    }

    private static final class Relocations {
        int count;
        final int[] section = new int[MOST_RELOCATIONS];
        final int[] place = new int[MOST_RELOCATIONS];
        final int[] sort = new int[MOST_RELOCATIONS];
        final int[] symbol = new int[MOST_RELOCATIONS];
        final int[] addend = new int[MOST_RELOCATIONS];
        final int[] sorted = new int[MOST_RELOCATIONS];
        // Those of section s are sorted[start[s]] .. sorted[start[s + 1] - 1].
        private final int[] start = new int[MOST_SECTIONS + 1];
        private final int[] filled = new int[MOST_SECTIONS];

        int add(int inSection, int atPlace, int ofSort, int ofSymbol, int ofAddend) {
            section[count] = inSection;
            place[count] = atPlace;
            sort[count] = ofSort;
            symbol[count] = ofSymbol;
            addend[count] = ofAddend;
            return count++;
        }

        // By sections and then relocations: the order in which every step goes through them.
        void putInOrder(int sectionCount) {
            Arrays.fill(start, 0);
            for (int r = 0; r < count; r++) {
                start[section[r] + 1]++;
            }
            for (int s = 0; s < sectionCount; s++) {
                start[s + 1] += start[s];
                filled[s] = start[s];
            }
            for (int r = 0; r < count; r++) {
                int s = section[r];
                sorted[filled[s]] = r;
                filled[s]++;
            }
        }

        int countOf(int ofSection) {
            return start[ofSection + 1] - start[ofSection];
        }

        int pick(int ofSection, int k) {
            return sorted[start[ofSection] + k];
        }
    }

    /** Which units are in. */
    private static final class Arrivals {
        private final Units units;
        private final Symbols symbols;
        private final boolean[] asked = new boolean[NAMES];
        private final boolean[] given = new boolean[NAMES];

        Arrivals(Units units, Symbols symbols) {
            this.units = units;
            this.symbols = symbols;
        }

        void bringIn(int entryName, boolean groups) {
            begin(entryName);
            // Every round but the last one brings a unit in.
            int rounds = groups ? MOST_UNITS + 1 : 1;
            for (int round = 0; round < rounds; round++) {
                if (!goThroughArchives()) {
                    break;
                }
            }
        }

        private void begin(int entryName) {
            for (int n = 0; n < NAMES; n++) {
                asked[n] = n == entryName;
                given[n] = false;
            }
            for (int u = 0; u < units.count; u++) {
                units.in[u] = false;
            }
            for (int u = 0; u < units.count; u++) {
                if (units.archive[u] == NONE) {
                    admit(u);
                }
            }
        }

        private boolean goThroughArchives() {
            boolean came = false;
            for (int archive = 0; archive < ARCHIVES; archive++) {
                for (int times = 0; times < MOST_UNITS; times++) {
                    int unit = firstNeeded(archive);
                    if (unit == NONE) {
                        break;
                    }
                    admit(unit);
                    came = true;
                }
            }
            return came;
        }

        private void admit(int unit) {
            units.in[unit] = true;
            for (int s = 0; s < symbols.count; s++) {
                if (symbols.unit[s] == unit) {
                    note(s);
                }
            }
        }

        private void note(int symbol) {
            if (symbols.asksForName(symbol)) {
                asked[symbols.name[symbol]] = true;
            }
            if (symbols.givesName(symbol)) {
                given[symbols.name[symbol]] = true;
            }
        }

        private int firstNeeded(int archive) {
            int first = NONE;
            for (int s = 0; s < symbols.count; s++) {
                int unit = symbols.unit[s];
                boolean waits = units.archive[unit] == archive && !units.in[unit];
                if (waits && isNeeded(s) && (first == NONE || unit < first)) {
                    first = unit;
                }
            }
            return first;
        }

        // A WEAK definition brings no member in, though it keeps its name from being needed.
        private boolean isNeeded(int symbol) {
            int name = symbols.name[symbol];
            return symbols.givesName(symbol) && symbols.binding[symbol] != WEAK
                    && asked[name] && !given[name];
        }
    }

    /** Each name's definition, and what each symbol means by it. */
    private static final class Names {
        private final Units units;
        private final Symbols symbols;
        private final int[] global = new int[NAMES];
        private final int[] weak = new int[NAMES];
        final int[] commonSize = new int[NAMES];
        int twice;
        // Of a symbol: its meaning, the section or the common place's name, the place or number.
        final int[] meant = new int[MOST_SYMBOLS];
        final int[] where = new int[MOST_SYMBOLS];
        final int[] value = new int[MOST_SYMBOLS];

        Names(Units units, Symbols symbols) {
            this.units = units;
            this.symbols = symbols;
        }

        void settle() {
            Arrays.fill(global, NONE);
            Arrays.fill(weak, NONE);
            Arrays.fill(commonSize, 0);
            twice = NONE;
            for (int s = 0; s < symbols.count; s++) {
                if (units.in[symbols.unit[s]] && symbols.givesName(s)) {
                    take(s);
                }
            }
            for (int s = 0; s < symbols.count; s++) {
                giveMeaning(s);
            }
        }

        private void take(int symbol) {
            int name = symbols.name[symbol];
            switch (symbols.binding[symbol]) {
                case GLOBAL:
                    takeGlobal(name, symbol);
                    break;
                case COMMON:
                    commonSize[name] = Math.max(commonSize[name], symbols.value[symbol]);
                    break;
                default:
                    takeWeak(name, symbol);
                    break;
            }
        }

        private void takeGlobal(int name, int symbol) {
            if (global[name] == NONE) {
                global[name] = symbol;
            } else if (twice == NONE || name < twice) {
                twice = name;
            }
        }

        // Units come ahead of symbols' numbers: a later symbol of an earlier unit is first.
        private void takeWeak(int name, int symbol) {
            if (weak[name] == NONE || symbols.unit[symbol] < symbols.unit[weak[name]]) {
                weak[name] = symbol;
            }
        }

        boolean isDefined(int name) {
            return isCommon(name) || definer(name) != NONE;
        }

        private boolean isCommon(int name) {
            return global[name] == NONE && commonSize[name] > 0;
        }

        private int definer(int name) {
            if (global[name] != NONE) {
                return global[name];
            }
            return isCommon(name) ? NONE : weak[name];
        }

        int sectionOf(int name) {
            int symbol = definer(name);
            return symbol == NONE ? NONE : symbols.section[symbol];
        }

        private void giveMeaning(int symbol) {
            int name = symbols.name[symbol];
            if (!units.in[symbols.unit[symbol]]) {
                setMeaning(symbol, NONE, NONE, 0);
            } else if (symbols.binding[symbol] == LOCAL) {
                copyMeaning(symbol, symbol);
            } else if (isCommon(name)) {
                setMeaning(symbol, COMMON_PLACE, name, 0);
            } else if (definer(name) != NONE) {
                copyMeaning(symbol, definer(name));
            } else if (symbols.binding[symbol] == WEAK) {
                setMeaning(symbol, NUMBER, NONE, 0);
            } else {
                setMeaning(symbol, NOTHING, NONE, 0);
            }
        }

        private void copyMeaning(int symbol, int from) {
            setMeaning(symbol, symbols.form[from], symbols.section[from], symbols.value[from]);
        }

        private void setMeaning(int symbol, int kind, int at, int v) {
            meant[symbol] = kind;
            where[symbol] = at;
            value[symbol] = v;
        }
    }

    /** Which sections and common places are reached. */
    private static final class Reach {
        private final Units units;
        private final Sections sections;
        private final Relocations relocations;
        private final Names names;
        final boolean[] reached = new boolean[MOST_SECTIONS];
        final boolean[] commonReached = new boolean[NAMES];
        int found;
        private final int[] queue = new int[MOST_SECTIONS];

        Reach(Units units, Sections sections, Relocations relocations, Names names) {
            this.units = units;
            this.sections = sections;
            this.relocations = relocations;
            this.names = names;
        }

        void spread(int entrySection) {
            forget();
            if (entrySection != NONE) {
                find(entrySection);
            }
            for (int s = 0; s < sections.count; s++) {
                if (sections.kept[s] && units.in[sections.unit[s]]) {
                    find(s);
                }
            }
            // The queue grows as it is gone through, but a section is found only once.
            for (int done = 0; done < found && done < MOST_SECTIONS; done++) {
                spreadFrom(queue[done]);
            }
        }

        private void forget() {
            for (int s = 0; s < MOST_SECTIONS; s++) {
                reached[s] = false;
            }
            for (int n = 0; n < NAMES; n++) {
                commonReached[n] = false;
            }
            found = 0;
        }

        private void find(int section) {
            if (!reached[section]) {
                reached[section] = true;
                queue[found] = section;
                found++;
            }
        }

        private void spreadFrom(int section) {
            for (int k = 0; k < relocations.countOf(section); k++) {
                int symbol = relocations.symbol[relocations.pick(section, k)];
                if (names.meant[symbol] == SECTION_PLACE) {
                    find(names.where[symbol]);
                } else if (names.meant[symbol] == COMMON_PLACE) {
                    commonReached[names.where[symbol]] = true;
                }
            }
        }

        int firstMissing() {
            for (int i = 0; i < relocations.count; i++) {
                int r = relocations.sorted[i];
                if (reached[relocations.section[r]]
                        && names.meant[relocations.symbol[r]] == NOTHING) {
                    return r;
                }
            }
            return NONE;
        }
    }

    /** Which reached TEXT sections are like each other. */
    private static final class Folding {
        private final Sections sections;
        private final Relocations relocations;
        private final Names names;
        private final Reach reach;
        // Of a section: the first one of those that are like it, itself among them.
        final int[] leader = new int[MOST_SECTIONS];
        private final int[] finer = new int[MOST_SECTIONS];

        Folding(Sections sections, Relocations relocations, Names names, Reach reach) {
            this.sections = sections;
            this.relocations = relocations;
            this.names = names;
            this.reach = reach;
        }

        // The greatest likeness: all that look the same are like each other at first, and
        // are set apart only where their relocations force it.
        void settle(boolean folds) {
            for (int s = 0; s < sections.count; s++) {
                leader[s] = folds && mayFold(s) ? firstOfSameLook(s) : s;
            }
            // Every round but the last one sets a section apart.
            for (int round = 0; round < MOST_SECTIONS; round++) {
                if (!split()) {
                    break;
                }
            }
        }

        boolean isFolded(int section) {
            return leader[section] != section;
        }

        int countFolded() {
            int sum = 0;
            for (int s = 0; s < sections.count; s++) {
                if (isFolded(s)) {
                    sum++;
                }
            }
            return sum;
        }

        private boolean mayFold(int section) {
            return reach.reached[section] && sections.kind[section] == TEXT
                    && !sections.kept[section];
        }

        private int firstOfSameLook(int section) {
            for (int t = 0; t < section; t++) {
                if (leader[t] == t && mayFold(t) && looksSame(t, section)) {
                    return t;
                }
            }
            return section;
        }

        private boolean looksSame(int a, int b) {
            return sections.size[a] == sections.size[b]
                    && sections.alignment[a] == sections.alignment[b]
                    && hasSameWords(a, b) && hasSameRelocations(a, b);
        }

        private boolean hasSameWords(int a, int b) {
            for (int place = 0; place < sections.size[a]; place += WORD_BYTES) {
                if (sections.read(a, place) != sections.read(b, place)) {
                    return false;
                }
            }
            return true;
        }

        private boolean hasSameRelocations(int a, int b) {
            if (relocations.countOf(a) != relocations.countOf(b)) {
                return false;
            }
            for (int k = 0; k < relocations.countOf(a); k++) {
                if (!isSame(relocations.pick(a, k), relocations.pick(b, k))) {
                    return false;
                }
            }
            return true;
        }

        // All but where the meanings stand, which depends on the likeness itself.
        private boolean isSame(int a, int b) {
            int symbolA = relocations.symbol[a];
            int symbolB = relocations.symbol[b];
            return relocations.place[a] == relocations.place[b]
                    && relocations.sort[a] == relocations.sort[b]
                    && relocations.addend[a] == relocations.addend[b]
                    && names.meant[symbolA] == names.meant[symbolB]
                    && names.value[symbolA] == names.value[symbolB];
        }

        private boolean split() {
            boolean changed = false;
            for (int s = 0; s < sections.count; s++) {
                finer[s] = firstOfSameTargets(s);
                changed = changed || finer[s] != leader[s];
            }
            System.arraycopy(finer, 0, leader, 0, sections.count);
            return changed;
        }

        private int firstOfSameTargets(int section) {
            for (int t = leader[section]; t < section; t++) {
                if (finer[t] == t && leader[t] == leader[section] && hasSameTargets(t, section)) {
                    return t;
                }
            }
            return section;
        }

        private boolean hasSameTargets(int a, int b) {
            for (int k = 0; k < relocations.countOf(a); k++) {
                int symbolA = relocations.symbol[relocations.pick(a, k)];
                int symbolB = relocations.symbol[relocations.pick(b, k)];
                if (leaderOfMeant(symbolA) != leaderOfMeant(symbolB)) {
                    return false;
                }
            }
            return true;
        }

        // Where a symbol's meaning stands, with sections that are like each other made one.
        int leaderOfMeant(int symbol) {
            int where = names.where[symbol];
            return names.meant[symbol] == SECTION_PLACE ? leader[where] : where;
        }
    }

    /** Where all is laid. */
    private static final class Layout {
        private final Sections sections;
        private final Names names;
        private final Reach reach;
        private final Folding folding;
        int base;
        int end;
        int times;
        int islandsAt;
        final int[] address = new int[MOST_SECTIONS];
        final int[] commonAddress = new int[NAMES];

        Layout(Sections sections, Names names, Reach reach, Folding folding) {
            this.sections = sections;
            this.names = names;
            this.reach = reach;
            this.folding = folding;
        }

        void begin(int from) {
            base = from;
            times = 0;
            Arrays.fill(address, NONE);
            Arrays.fill(commonAddress, NONE);
        }

        void lay(int islandCount) {
            times++;
            end = base;
            laySections(TEXT);
            islandsAt = put(islandCount * ISLAND_BYTES, WORD_BYTES);
            laySections(DATA);
            laySections(ZERO);
            for (int n = 0; n < NAMES; n++) {
                if (reach.commonReached[n]) {
                    commonAddress[n] = put(names.commonSize[n], WORD_BYTES);
                }
            }
        }

        // A folded section's leader has a lower number, so it is laid by then.
        private void laySections(int kind) {
            for (int s = 0; s < sections.count; s++) {
                if (reach.reached[s] && sections.kind[s] == kind) {
                    address[s] = folding.isFolded(s)
                            ? address[folding.leader[s]]
                            : put(sections.size[s], sections.alignment[s]);
                }
            }
        }

        // Alignments are powers of two, and addresses stay far below an int's end.
        private int put(int size, int alignment) {
            int start = (end + alignment - 1) & -alignment;
            end = start + size;
            return start;
        }

        boolean isStanding(int section) {
            return reach.reached[section] && !folding.isFolded(section);
        }

        boolean isLaid(int symbol) {
            switch (names.meant[symbol]) {
                case SECTION_PLACE:
                    return reach.reached[names.where[symbol]];
                case COMMON_PLACE:
                    return reach.commonReached[names.where[symbol]];
                default:
                    return names.meant[symbol] == NUMBER;
            }
        }

        int addressOf(int symbol) {
            return startOf(names.meant[symbol], names.where[symbol]) + names.value[symbol];
        }

        int startOf(int meant, int where) {
            switch (meant) {
                case SECTION_PLACE:
                    return address[where];
                case COMMON_PLACE:
                    return commonAddress[where];
                default:
                    return 0;
            }
        }

        int sectionAt(int place) {
            for (int s = 0; s < sections.count; s++) {
                if (isStanding(s) && place >= address[s] && place < address[s] + sections.size[s]) {
                    return s;
                }
            }
            return NONE;
        }
    }

    /** The islands, and which NEAR relocations go to them. */
    private static final class Islands {
        private final Sections sections;
        private final Relocations relocations;
        private final Names names;
        private final Folding folding;
        private final Layout layout;
        int count;
        int goers;
        // An island's target: what is meant, where that stands, and place (or number) and addend.
        private final int[] meant = new int[MOST_ISLANDS];
        private final int[] where = new int[MOST_ISLANDS];
        private final int[] sum = new int[MOST_ISLANDS];
        private final int[] islandOf = new int[MOST_RELOCATIONS];

        Islands(Sections sections, Relocations relocations, Names names, Folding folding,
                Layout layout) {
            this.sections = sections;
            this.relocations = relocations;
            this.names = names;
            this.folding = folding;
            this.layout = layout;
        }

        /** Whether there are islands enough. */
        boolean settle() {
            count = 0;
            goers = 0;
            Arrays.fill(islandOf, NONE);
            layout.lay(count);
            // Every round but the last one sends one more relocation to an island, for good.
            for (int round = 0; round <= MOST_RELOCATIONS; round++) {
                int r = firstStranded();
                if (r == NONE) {
                    break;
                }
                if (!send(r)) {
                    return false;
                }
                layout.lay(count);
            }
            return true;
        }

        private int firstStranded() {
            for (int i = 0; i < relocations.count; i++) {
                int r = relocations.sorted[i];
                if (islandOf[r] == NONE && mayGo(r) && !isNear(r, targetOf(r))) {
                    return r;
                }
            }
            return NONE;
        }

        private boolean mayGo(int relocation) {
            int section = relocations.section[relocation];
            return relocations.sort[relocation] == SORT_NEAR && sections.kind[section] == TEXT
                    && layout.isStanding(section);
        }

        private boolean send(int relocation) {
            int island = find(relocation);
            if (island == count) {
                if (count >= MOST_ISLANDS) {
                    return false;
                }
                raise(relocation);
            }
            islandOf[relocation] = island;
            goers++;
            return true;
        }

        // The island of its target, or the count if there is none yet.
        private int find(int relocation) {
            int symbol = relocations.symbol[relocation];
            for (int i = 0; i < count; i++) {
                if (meant[i] == names.meant[symbol] && where[i] == folding.leaderOfMeant(symbol)
                        && sum[i] == names.value[symbol] + relocations.addend[relocation]) {
                    return i;
                }
            }
            return count;
        }

        private void raise(int relocation) {
            int symbol = relocations.symbol[relocation];
            meant[count] = names.meant[symbol];
            where[count] = folding.leaderOfMeant(symbol);
            sum[count] = names.value[symbol] + relocations.addend[relocation];
            count++;
        }

        int targetOf(int relocation) {
            return layout.addressOf(relocations.symbol[relocation])
                    + relocations.addend[relocation];
        }

        int placeOf(int relocation) {
            return layout.address[relocations.section[relocation]] + relocations.place[relocation];
        }

        // Where a NEAR relocation branches to: its island, if it has one.
        int goalOf(int relocation, int target) {
            int island = islandOf[relocation];
            return island == NONE ? target : layout.islandsAt + island * ISLAND_BYTES;
        }

        // The way is a whole number: a target that has wrapped must not wrap back into reach.
        boolean isNear(int relocation, int goal) {
            long way = (long) goal - placeOf(relocation) - WORD_BYTES;
            return way % WORD_BYTES == 0 && way >= FARTHEST_BACK && way <= FARTHEST_ON;
        }

        boolean covers(int address) {
            return address >= layout.islandsAt && address < layout.islandsAt + count * ISLAND_BYTES;
        }

        int read(int address) {
            int offset = address - layout.islandsAt;
            if (offset % ISLAND_BYTES != 0) {
                return 0;
            }
            int island = offset / ISLAND_BYTES;
            return layout.startOf(meant[island], where[island]) + sum[island];
        }
    }

    /** Words as they are mended, each when it is asked for: the words that were told stay. */
    private static final class Mending {
        private final Sections sections;
        private final Relocations relocations;
        private final Layout layout;
        private final Islands islands;

        Mending(Sections sections, Relocations relocations, Layout layout, Islands islands) {
            this.sections = sections;
            this.relocations = relocations;
            this.layout = layout;
            this.islands = islands;
        }

        // TEXT relocations without an island are near by now, so all are asked alike.
        int firstFar() {
            for (int i = 0; i < relocations.count; i++) {
                int r = relocations.sorted[i];
                if (isMended(r, SORT_NEAR)
                        && !islands.isNear(r, islands.goalOf(r, islands.targetOf(r)))) {
                    return r;
                }
            }
            return NONE;
        }

        int firstMisplacedJump() {
            for (int i = 0; i < relocations.count; i++) {
                int r = relocations.sorted[i];
                if (isMended(r, SORT_JUMP) && islands.targetOf(r) % WORD_BYTES != 0) {
                    return r;
                }
            }
            return NONE;
        }

        private boolean isMended(int relocation, int sort) {
            return relocations.sort[relocation] == sort
                    && layout.isStanding(relocations.section[relocation]);
        }

        int read(int address) {
            int section = layout.sectionAt(address);
            if (section == NONE) {
                return islands.covers(address) ? islands.read(address) : 0;
            }
            if (sections.kind[section] == ZERO) {
                return 0;
            }
            return mended(section, address - layout.address[section]);
        }

        private int mended(int section, int place) {
            int word = sections.read(section, place);
            for (int k = 0; k < relocations.countOf(section); k++) {
                int r = relocations.pick(section, k);
                if (relocations.place[r] == place) {
                    word = mend(word, r);
                }
            }
            return word;
        }

        private int mend(int word, int relocation) {
            int target = islands.targetOf(relocation);
            int place = islands.placeOf(relocation);
            switch (relocations.sort[relocation]) {
                case SORT_WORD:
                    return word + target;
                case SORT_RELATIVE:
                    return word + target - place;
                case SORT_HIGH:
                    return withLowerHalf(word, (target + 32768) >>> 16);
                case SORT_LOW:
                    return withLowerHalf(word, target);
                case SORT_NEAR:
                    return withLowerHalf(word, wordsBetween(place + WORD_BYTES,
                            islands.goalOf(relocation, target)));
                default:
                    return (word & 0xFC000000) | (target >>> 2 & 0x03FFFFFF);
            }
        }

        private static int wordsBetween(int from, int to) {
            return (to - from) / WORD_BYTES;
        }

        private static int withLowerHalf(int word, int half) {
            return (word & 0xFFFF0000) | (half & 0xFFFF);
        }
    }
}
