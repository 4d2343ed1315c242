import java.util.ArrayList;
import java.util.Arrays;

/** Sections of objects, joined to one image; DOC.md tells the promises that the calls keep. */
public final class SectionGarden {
    public static final int NONE = -1, UNKNOWN = -101, OUTSIDE = -102, STATE = -103, ROOM = -104;

    private static final int MOST_OBJECTS = 12;
    private static final int MOST_SECTIONS = 60;
    private static final int MOST_SYMBOLS = 120;
    private static final int MOST_RELOCATIONS = 200;
    private static final int MOST_ROOTS = 8;
    private static final int LARGEST_SIZE = 20000;
    private static final int LARGEST_SUM = 60000;
    private static final int HIGHEST_ALIGN = 8;
    private static final int HIGHEST_BASE = 2000000000;
    private static final int FIRST_PLACE = 4096;

    private static final int KINDS = 4;
    private static final int CODE = 0;
    private static final int CONSTANTS = 1;
    private static final int ZEROS = 3;

    private static final int NAMES = 64;
    private static final int SETS = 8;
    private static final int GROUPS = 16;

    private static final int LOCAL = 0;
    private static final int GLOBAL = 1;
    private static final int WEAK = 2;

    private static final int START_OF_FIRST_SET = -2;
    private static final int STOP_OF_FIRST_SET = -10;
    private static final int STOP_OF_LAST_SET = -17;

    private static final int VENEER_SIZE = 8;
    private static final int VENEER_FIRST_BYTE = 234;
    private static final int VENEER_VALUE_AT = 4;

    private static final Type[] TYPES = Type.values();

    private final Told told = new Told();
    private final Names names = new Names();
    private final Keeping keeping = new Keeping();
    private final Folding folding = new Folding();
    private final Placing placing = new Placing();
    private boolean sectionsKnown;
    private boolean image;
    private int faultNumber = NONE;

    public SectionGarden() {
    }

    public int object() {
        if (told.objects >= MOST_OBJECTS) {
            return ROOM;
        }
        forgetLink();
        told.objects++;
        return told.objects - 1;
    }

    public int section(int object, int kind, int size, int align, int seed) {
        if (!told.hasObject(object)) {
            return UNKNOWN;
        }
        if (!isWithin(kind, 0, KINDS - 1) || !isWithin(size, 0, LARGEST_SIZE) || !isWithin(align, 0, HIGHEST_ALIGN)) {
            return OUTSIDE;
        }
        if (told.sections.size() >= MOST_SECTIONS || told.sizes + size > LARGEST_SUM) {
            return ROOM;
        }
        forgetLink();
        Section added = new Section(told.sections.size(), object, kind, size, align, seed);
        told.sections.add(added);
        told.sizes += size;
        return added.number;
    }

    public int patch(int section, int i, int v) {
        Section patched = told.sectionAt(section);
        if (patched == null || patched.kind == ZEROS) {
            return UNKNOWN;
        }
        if (!isWithin(i, 0, patched.size - 1)) {
            return OUTSIDE;
        }
        forgetLink();
        int before = patched.byteAt(i);
        patched.setByte(i, v);
        return before;
    }

    public int mark(int section, int what, int v) {
        Section marked = told.sectionAt(section);
        if (marked == null) {
            return UNKNOWN;
        }
        if (!isMark(what, v)) {
            return OUTSIDE;
        }
        forgetLink();
        return marked.exchangeMark(what, v);
    }

    public int symbol(int object, int name, int section, int offset, int sort) {
        if (!told.hasObject(object) || section < STOP_OF_LAST_SET) {
            return UNKNOWN;
        }
        Section home = told.sectionAt(section);
        if (section >= 0 && (home == null || home.object != object)) {
            return UNKNOWN;
        }
        int lastOffset = home == null ? 0 : home.size;
        if (!isWithin(name, 0, NAMES - 1) || !isWithin(offset, 0, lastOffset) || !isSortFor(section, sort)) {
            return OUTSIDE;
        }
        if (told.symbols.size() >= MOST_SYMBOLS) {
            return ROOM;
        }
        forgetLink();
        Symbol added = new Symbol(object, name, home, offset, sort, section);
        told.symbols.add(added);
        return told.symbols.size() - 1;
    }

    public int relocation(int section, int offset, int type, int symbol, int addend) {
        Section home = told.sectionAt(section);
        Symbol to = told.symbolAt(symbol);
        if (home == null || home.kind == ZEROS || to == null || to.object != home.object) {
            return UNKNOWN;
        }
        Type written = typeAt(type);
        if (written == null || !isWithin(offset, 0, home.size - written.width)) {
            return OUTSIDE;
        }
        if (written == Type.BRANCH && home.kind != CODE) {
            return OUTSIDE;
        }
        if (told.relocations.size() >= MOST_RELOCATIONS) {
            return ROOM;
        }
        forgetLink();
        Relocation added = new Relocation(home, offset, written, to, addend);
        told.relocations.add(added);
        home.relocations.add(added);
        return told.relocations.size() - 1;
    }

    public int root(int name) {
        if (!isWithin(name, 0, NAMES - 1)) {
            return OUTSIDE;
        }
        if (!told.addRoot(name)) {
            return ROOM;
        }
        forgetLink();
        return told.rootCount;
    }

    public int base(int kind, int place) {
        if (!isWithin(kind, 0, KINDS - 1) || !isWithin(place, NONE, HIGHEST_BASE)) {
            return OUTSIDE;
        }
        forgetLink();
        int before = told.bases[kind];
        told.bases[kind] = place;
        return before;
    }

    public int link(boolean fold) {
        forgetLink();
        faultNumber = names.resolve(told);
        if (faultNumber != NONE) {
            return 1;
        }
        keeping.find(told, names);
        folding.find(told.sections, fold);
        sectionsKnown = true;
        int kind = faultBeforePlacing();
        if (kind != 0) {
            return kind;
        }
        placing.run(told);
        kind = faultOfPlaces();
        image = kind == 0;
        return kind;
    }

    public int fault() {
        return faultNumber;
    }

    public int kept(int section, int what) {
        Section asked = told.sectionAt(section);
        if (asked == null) {
            return UNKNOWN;
        }
        if (!isWithin(what, 0, 4)) {
            return OUTSIDE;
        }
        if (!sectionsKnown) {
            return STATE;
        }
        switch (what) {
            case 0:
                return asked.isKept() ? 1 : 0;
            case 1:
                return numberOf(asked.by);
            case 2:
                return numberOf(asked.foldedInto);
            case 3:
                return asked.lost ? 1 : 0;
            default:
                return asked.row;
        }
    }

    public long place(int section) throws IndexOutOfBoundsException, IllegalStateException {
        Section asked = told.sectionAt(section);
        if (asked == null) {
            throw new IndexOutOfBoundsException("there is no such section");
        }
        if (!image || !asked.isKept()) {
            throw new IllegalStateException("the section has no place in an image");
        }
        return asked.finalPlace();
    }

    public long value(int symbol) throws IndexOutOfBoundsException, IllegalStateException {
        Symbol asked = told.symbolAt(symbol);
        if (asked == null) {
            throw new IndexOutOfBoundsException("there is no such symbol");
        }
        if (!image || (asked.target != null && !asked.target.isKept())) {
            throw new IllegalStateException("the symbol has no value in an image");
        }
        return placing.targetValue(asked);
    }

    public int octet(long place) {
        if (!image) {
            return STATE;
        }
        for (int i = 0; i < told.sections.size(); i++) {
            Section section = told.sections.get(i);
            if (section.isPlaced() && place >= section.place && place < section.endWithVeneers()) {
                return placing.imageByte(section, place);
            }
        }
        return NONE;
    }

    public long range(int kind, boolean end) throws IndexOutOfBoundsException, IllegalStateException {
        if (!isWithin(kind, 0, KINDS - 1)) {
            throw new IndexOutOfBoundsException("there is no such kind");
        }
        if (!image) {
            throw new IllegalStateException("there is no image");
        }
        return end ? placing.ends[kind] : placing.begins[kind];
    }

    public int veneers(int section) {
        Section asked = told.sectionAt(section);
        if (asked == null) {
            return UNKNOWN;
        }
        return image ? asked.veneerCount : STATE;
    }

    public int count(int what) {
        switch (what) {
            case 0:
                return told.objects;
            case 1:
                return told.sections.size();
            case 2:
                return told.symbols.size();
            case 3:
                return told.relocations.size();
            case 4:
                return told.rootCount;
            case 5:
                return sectionsKnown ? keeping.rows.size() : 0;
            case 6:
                return sectionsKnown ? folding.folded : 0;
            case 7:
                return image ? placing.times : 0;
            case 8:
                return image ? placing.veneerSum : 0;
            default:
                return OUTSIDE;
        }
    }

    private void forgetLink() {
        sectionsKnown = false;
        image = false;
        faultNumber = NONE;
    }

    private int faultBeforePlacing() {
        faultNumber = names.firstRootNowhere(told);
        if (faultNumber != NONE) {
            return 2;
        }
        faultNumber = keeping.firstNowhere(told.relocations);
        if (faultNumber != NONE) {
            return 3;
        }
        faultNumber = keeping.firstIntoLost(told.relocations);
        return faultNumber != NONE ? 4 : 0;
    }

    private int faultOfPlaces() {
        faultNumber = placing.firstKindOverAnother();
        if (faultNumber != NONE) {
            return 5;
        }
        faultNumber = placing.firstMisfit(told.relocations);
        return faultNumber != NONE ? 6 : 0;
    }

    private static boolean isWithin(int number, int least, int most) {
        return number >= least && number <= most;
    }

    private static boolean isMark(int what, int v) {
        switch (what) {
            case 0:
                return isWithin(v, 0, 1);
            case 1:
                return isWithin(v, NONE, SETS - 1);
            case 2:
                return isWithin(v, NONE, GROUPS - 1);
            default:
                return false;
        }
    }

    private static boolean isSortFor(int section, int sort) {
        if (section >= 0) {
            return isWithin(sort, LOCAL, WEAK);
        }
        return section == NONE ? isWithin(sort, GLOBAL, WEAK) : sort == LOCAL;
    }

    private static Type typeAt(int type) {
        return isWithin(type, 0, TYPES.length - 1) ? TYPES[type] : null;
    }

    private static int numberOf(Section section) {
        return section == null ? NONE : section.number;
    }

    /** How a relocation is written: in the order of the document's numbers. */
    private enum Type {
        WORD(4, false, 0L, 4294967295L),
        HALF(2, false, 0L, 65535L),
        NEAR(4, true, -2147483648L, 2147483647L),
        BRANCH(2, true, -32768L, 32767L),
        BYTE(1, false, -128L, 255L);

        final int width;
        final boolean relative;
        final long least;
        final long most;

        Type(int width, boolean relative, long least, long most) {
            this.width = width;
            this.relative = relative;
            this.least = least;
            this.most = most;
        }

        boolean fits(long amount) {
            return amount >= least && amount <= most;
        }
    }

    /** A byte of a section that is no longer told by the section's seed. */
    private static final class Patch {
        final int at;
        int value;

        Patch(int at, int value) {
            this.at = at;
            this.value = value;
        }
    }

    /** What was told of a section, and what the latest link found of it. */
    private static final class Section {
        final int number;
        final int object;
        final int kind;
        final int size;
        final int align;
        final int seed;
        final ArrayList<Relocation> relocations = new ArrayList<>();
        // Few bytes are ever patched: the seed tells all others, so that no section needs a row of its size.
        private final ArrayList<Patch> patches = new ArrayList<>();
        boolean keep;
        int set = NONE;
        int group = NONE;

        boolean lost;
        int row = NONE;
        Section by;
        boolean mayFold;
        Section kin;
        Section nextKin;
        Section foldedInto;
        long place;
        int veneerCount;

        Section(int number, int object, int kind, int size, int align, int seed) {
            this.number = number;
            this.object = object;
            this.kind = kind;
            this.size = size;
            this.align = align;
            this.seed = seed;
        }

        int byteAt(int i) {
            for (int p = 0; p < patches.size(); p++) {
                if (patches.get(p).at == i) {
                    return patches.get(p).value;
                }
            }
            return (seed + i) & 255;
        }

        void setByte(int i, int v) {
            int value = v & 255;
            for (int p = 0; p < patches.size(); p++) {
                if (patches.get(p).at == i) {
                    patches.get(p).value = value;
                    return;
                }
            }
            patches.add(new Patch(i, value));
        }

        /** Whether the bytes are the same as those of a section of the same size. */
        boolean hasBytesOf(Section other) {
            if (((seed ^ other.seed) & 255) == 0) {
                return agreesWherePatched(other) && other.agreesWherePatched(this);
            }
            for (int i = 0; i < size; i++) {
                if (byteAt(i) != other.byteAt(i)) {
                    return false;
                }
            }
            return true;
        }

        private boolean agreesWherePatched(Section other) {
            for (int p = 0; p < patches.size(); p++) {
                Patch patch = patches.get(p);
                if (patch.value != other.byteAt(patch.at)) {
                    return false;
                }
            }
            return true;
        }

        int exchangeMark(int what, int v) {
            int before;
            if (what == 0) {
                before = keep ? 1 : 0;
                keep = v == 1;
            } else if (what == 1) {
                before = set;
                set = v;
            } else {
                before = group;
                group = v;
            }
            return before;
        }

        boolean isKept() {
            return row != NONE;
        }

        boolean isPlaced() {
            return isKept() && foldedInto == null;
        }

        long finalPlace() {
            return foldedInto == null ? place : foldedInto.place;
        }

        long endWithoutVeneers() {
            return place + size;
        }

        long placeOfVeneer(int veneer) {
            return alignedUp(endWithoutVeneers(), 2) + (long) veneer * VENEER_SIZE;
        }

        long endWithVeneers() {
            return veneerCount == 0 ? endWithoutVeneers() : placeOfVeneer(veneerCount);
        }

        static long alignedUp(long place, int power) {
            long last = (1L << power) - 1;
            return (place + last) & ~last;
        }
    }

    /** A symbol, and its TARGET in the latest link: a set's edge, else a section with an offset, else NOWHERE. */
    private static final class Symbol {
        final int object;
        final int name;
        final Section home;
        final int offset;
        final int sort;
        final int startOf;
        final int stopOf;

        Section target;
        int targetOffset;

        Symbol(int object, int name, Section home, int offset, int sort, int section) {
            this.object = object;
            this.name = name;
            this.home = home;
            this.offset = offset;
            this.sort = sort;
            boolean stop = section <= STOP_OF_FIRST_SET;
            boolean start = !stop && section <= START_OF_FIRST_SET;
            this.startOf = start ? START_OF_FIRST_SET - section : NONE;
            this.stopOf = stop ? STOP_OF_FIRST_SET - section : NONE;
        }

        boolean isDefinition() {
            return sort != LOCAL && home != null && !home.lost;
        }

        int targetSet() {
            return startOf != NONE ? startOf : stopOf;
        }

        boolean isNowhere() {
            return target == null && targetSet() == NONE;
        }

        void aimAt(Symbol definition) {
            target = definition == null ? null : definition.home;
            targetOffset = definition == null ? 0 : definition.offset;
        }

        boolean hasSetAndOffsetOf(Symbol other) {
            return startOf == other.startOf && stopOf == other.stopOf && targetOffset == other.targetOffset;
        }

        boolean hasTargetOf(Symbol other) {
            return target == other.target && hasSetAndOffsetOf(other);
        }
    }

    /** A relocation, and which of its section's veneers it goes through in the latest link. */
    private static final class Relocation {
        final Section home;
        final int offset;
        final Type type;
        final Symbol symbol;
        final int addend;

        int veneer = NONE;

        Relocation(Section home, int offset, Type type, Symbol symbol, int addend) {
            this.home = home;
            this.offset = offset;
            this.type = type;
            this.symbol = symbol;
            this.addend = addend;
        }

        long ownPlace() {
            return home.place + offset;
        }

        boolean covers(int i) {
            return i >= offset && i < offset + type.width;
        }

        boolean isWrittenLike(Relocation other) {
            return offset == other.offset && type == other.type && addend == other.addend;
        }
    }

    /** All that was told. */
    private static final class Told {
        final ArrayList<Section> sections = new ArrayList<>();
        final ArrayList<Symbol> symbols = new ArrayList<>();
        final ArrayList<Relocation> relocations = new ArrayList<>();
        final int[] roots = new int[MOST_ROOTS];
        final int[] bases = {NONE, NONE, NONE, NONE};
        int objects;
        int rootCount;
        int sizes;

        boolean hasObject(int object) {
            return object >= 0 && object < objects;
        }

        Section sectionAt(int number) {
            return number >= 0 && number < sections.size() ? sections.get(number) : null;
        }

        Symbol symbolAt(int number) {
            return number >= 0 && number < symbols.size() ? symbols.get(number) : null;
        }

        boolean addRoot(int name) {
            if (rootCount < 0 || rootCount >= roots.length) {
                return false;
            }
            roots[rootCount] = name;
            rootCount++;
            return true;
        }
    }

    /** Which sections are LOST, which symbol defines a name, and where each symbol leads. */
    private static final class Names {
        private final int[] firstObjects = new int[GROUPS];
        private final Symbol[] definitions = new Symbol[NAMES];

        /** The number of the first symbol that defines a GLOBAL name once more, NONE if all is well. */
        int resolve(Told told) {
            findLost(told.sections);
            int twice = findDefinitions(told.symbols);
            if (twice == NONE) {
                findTargets(told.symbols);
            }
            return twice;
        }

        Symbol definitionOf(int name) {
            return name >= 0 && name < definitions.length ? definitions[name] : null;
        }

        int firstRootNowhere(Told told) {
            for (int i = 0; i < told.rootCount && i < told.roots.length; i++) {
                if (definitionOf(told.roots[i]) == null) {
                    return i;
                }
            }
            return NONE;
        }

        private void findLost(ArrayList<Section> sections) {
            Arrays.fill(firstObjects, MOST_OBJECTS);
            for (int i = 0; i < sections.size(); i++) {
                Section section = sections.get(i);
                if (hasGroup(section)) {
                    firstObjects[section.group] = Math.min(firstObjects[section.group], section.object);
                }
            }
            for (int i = 0; i < sections.size(); i++) {
                Section section = sections.get(i);
                section.lost = hasGroup(section) && firstObjects[section.group] < section.object;
            }
        }

        private boolean hasGroup(Section section) {
            return section.group >= 0 && section.group < firstObjects.length;
        }

        private int findDefinitions(ArrayList<Symbol> symbols) {
            for (int i = 0; i < definitions.length; i++) {
                definitions[i] = null;
            }
            for (int i = 0; i < symbols.size(); i++) {
                Symbol symbol = symbols.get(i);
                if (symbol.isDefinition() && !takeDefinition(symbol)) {
                    return i;
                }
            }
            return NONE;
        }

        private boolean takeDefinition(Symbol symbol) {
            Symbol earlier = definitionOf(symbol.name);
            boolean stronger = earlier == null || (earlier.sort == WEAK && symbol.sort == GLOBAL);
            if (stronger && symbol.name >= 0 && symbol.name < definitions.length) {
                definitions[symbol.name] = symbol;
            }
            return stronger || symbol.sort == WEAK;
        }

        private void findTargets(ArrayList<Symbol> symbols) {
            for (int i = 0; i < symbols.size(); i++) {
                Symbol symbol = symbols.get(i);
                if (symbol.targetSet() != NONE) {
                    symbol.aimAt(null);
                } else {
                    symbol.aimAt(symbol.sort == LOCAL ? symbol : definitionOf(symbol.name));
                }
            }
        }
    }

    /** The rows of KEPT sections, and the faults of what these refer to. */
    private static final class Keeping {
        final ArrayList<Section> rows = new ArrayList<>();

        void find(Told told, Names names) {
            begin(told.sections);
            for (int i = 0; i < told.rootCount && i < told.roots.length; i++) {
                Symbol definition = names.definitionOf(told.roots[i]);
                if (definition != null) {
                    admit(definition.home, null);
                }
            }
            for (int i = 0; i < rows.size() && i < MOST_SECTIONS; i++) {
                follow(rows.get(i), told.sections);
            }
        }

        int firstNowhere(ArrayList<Relocation> relocations) {
            for (int i = 0; i < relocations.size(); i++) {
                Relocation relocation = relocations.get(i);
                Symbol symbol = relocation.symbol;
                if (relocation.home.isKept() && symbol.sort != WEAK && symbol.isNowhere()) {
                    return i;
                }
            }
            return NONE;
        }

        int firstIntoLost(ArrayList<Relocation> relocations) {
            for (int i = 0; i < relocations.size(); i++) {
                Relocation relocation = relocations.get(i);
                Section target = relocation.symbol.target;
                if (relocation.home.isKept() && target != null && target.lost) {
                    return i;
                }
            }
            return NONE;
        }

        private void begin(ArrayList<Section> sections) {
            rows.clear();
            for (int i = 0; i < sections.size(); i++) {
                sections.get(i).row = NONE;
                sections.get(i).by = null;
            }
            for (int i = 0; i < sections.size(); i++) {
                if (sections.get(i).keep) {
                    admit(sections.get(i), null);
                }
            }
        }

        private void admit(Section section, Section by) {
            if (section != null && !section.lost && !section.isKept()) {
                section.row = rows.size();
                section.by = by;
                rows.add(section);
            }
        }

        private void follow(Section section, ArrayList<Section> sections) {
            for (int i = 0; i < section.relocations.size(); i++) {
                Symbol symbol = section.relocations.get(i).symbol;
                admit(symbol.target, section);
                if (symbol.targetSet() != NONE) {
                    admitSet(symbol.targetSet(), section, sections);
                }
            }
            if (section.group != NONE) {
                admitGroup(section, sections);
            }
        }

        private void admitSet(int set, Section by, ArrayList<Section> sections) {
            for (int i = 0; i < sections.size(); i++) {
                if (sections.get(i).set == set) {
                    admit(sections.get(i), by);
                }
            }
        }

        private void admitGroup(Section by, ArrayList<Section> sections) {
            for (int i = 0; i < sections.size(); i++) {
                if (sections.get(i).group == by.group) {
                    admit(sections.get(i), by);
                }
            }
        }
    }

    /**
     * Which sections are ALIKE: those that look alike are taken for kin, and what then has relocations
     * to sections that are no kin is parted, until nothing parts; so as many stay ALIKE as can be.
     */
    private static final class Folding {
        int folded;

        void find(ArrayList<Section> sections, boolean wanted) {
            folded = 0;
            for (int i = 0; i < sections.size(); i++) {
                sections.get(i).foldedInto = null;
            }
            if (!wanted) {
                return;
            }
            findWhatMayFold(sections);
            joinKin(sections);
            boolean parted = true;
            for (int round = 0; parted && round <= MOST_SECTIONS; round++) {
                parted = partKin(sections);
            }
            foldKin(sections);
        }

        private void findWhatMayFold(ArrayList<Section> sections) {
            for (int i = 0; i < sections.size(); i++) {
                Section section = sections.get(i);
                boolean foldableKind = section.kind == CODE || section.kind == CONSTANTS;
                section.mayFold = section.isKept() && foldableKind && !section.keep && section.set == NONE;
            }
            for (int i = 0; i < sections.size(); i++) {
                if (sections.get(i).isKept()) {
                    forbidWhatItTakesPlacesOf(sections.get(i));
                }
            }
        }

        private void forbidWhatItTakesPlacesOf(Section section) {
            for (int i = 0; i < section.relocations.size(); i++) {
                Relocation relocation = section.relocations.get(i);
                if (relocation.type != Type.BRANCH && relocation.symbol.target != null) {
                    relocation.symbol.target.mayFold = false;
                }
            }
        }

        private void joinKin(ArrayList<Section> sections) {
            for (int i = 0; i < sections.size(); i++) {
                Section section = sections.get(i);
                section.kin = section;
                for (int j = 0; j < i && section.kin == section && section.mayFold; j++) {
                    Section earlier = sections.get(j);
                    if (earlier.kin == earlier && earlier.mayFold && looksLike(earlier, section)) {
                        section.kin = earlier;
                    }
                }
            }
        }

        private boolean looksLike(Section one, Section other) {
            return one.kind == other.kind && one.size == other.size && one.align == other.align
                && relocationsLookLike(one.relocations, other.relocations) && one.hasBytesOf(other);
        }

        private boolean relocationsLookLike(ArrayList<Relocation> some, ArrayList<Relocation> others) {
            if (some.size() != others.size()) {
                return false;
            }
            for (int i = 0; i < some.size() && i < others.size(); i++) {
                Relocation one = some.get(i);
                Relocation other = others.get(i);
                boolean sameForm = (one.symbol.target == null) == (other.symbol.target == null);
                if (!sameForm || !one.isWrittenLike(other) || !one.symbol.hasSetAndOffsetOf(other.symbol)) {
                    return false;
                }
            }
            return true;
        }

        private boolean partKin(ArrayList<Section> sections) {
            boolean parted = false;
            for (int i = 0; i < sections.size(); i++) {
                Section section = sections.get(i);
                section.nextKin = firstOfTheSameKin(sections, i, section);
                parted = parted || section.nextKin != section.kin;
            }
            for (int i = 0; i < sections.size(); i++) {
                sections.get(i).kin = sections.get(i).nextKin;
            }
            return parted;
        }

        private Section firstOfTheSameKin(ArrayList<Section> sections, int before, Section section) {
            for (int j = 0; j < before && j < sections.size(); j++) {
                Section earlier = sections.get(j);
                if (earlier.nextKin == earlier && earlier.kin == section.kin && targetsAreKin(earlier, section)) {
                    return earlier;
                }
            }
            return section;
        }

        private boolean targetsAreKin(Section one, Section other) {
            for (int i = 0; i < one.relocations.size() && i < other.relocations.size(); i++) {
                Section target = one.relocations.get(i).symbol.target;
                Section otherTarget = other.relocations.get(i).symbol.target;
                if (target != null && otherTarget != null && target.kin != otherTarget.kin) {
                    return false;
                }
            }
            return true;
        }

        private void foldKin(ArrayList<Section> sections) {
            for (int i = 0; i < sections.size(); i++) {
                Section section = sections.get(i);
                if (section.kin != section) {
                    section.foldedInto = section.kin;
                    folded++;
                }
            }
        }
    }

    /** Places, veneers, and what the relocations write. */
    private static final class Placing {
        final long[] begins = new long[KINDS];
        final long[] ends = new long[KINDS];
        private final boolean[] hasSections = new boolean[KINDS];
        private final long[] starts = new long[SETS];
        private final long[] stops = new long[SETS];
        int times;
        int veneerSum;

        void run(Told told) {
            times = 0;
            veneerSum = 0;
            dropVeneers(told);
            boolean more = true;
            // Every round but the last makes a veneer, and a relocation gets one at most.
            for (int round = 0; more && round <= MOST_RELOCATIONS; round++) {
                layOut(told);
                more = addVeneers(told.sections);
            }
        }

        int firstKindOverAnother() {
            for (int kind = 1; kind < KINDS; kind++) {
                for (int before = 0; before < kind; before++) {
                    boolean bothThere = hasSections[kind] && hasSections[before];
                    if (bothThere && begins[kind] < ends[before] && begins[before] < ends[kind]) {
                        return kind;
                    }
                }
            }
            return NONE;
        }

        int firstMisfit(ArrayList<Relocation> relocations) {
            for (int i = 0; i < relocations.size(); i++) {
                Relocation relocation = relocations.get(i);
                if (relocation.home.isPlaced() && !relocation.type.fits(amountWritten(relocation))) {
                    return i;
                }
            }
            return NONE;
        }

        long targetValue(Symbol symbol) {
            if (symbol.startOf >= 0 && symbol.startOf < starts.length) {
                return starts[symbol.startOf];
            }
            if (symbol.stopOf >= 0 && symbol.stopOf < stops.length) {
                return stops[symbol.stopOf];
            }
            return symbol.target == null ? 0 : symbol.target.finalPlace() + symbol.targetOffset;
        }

        /** The byte at a place from the section's first one to the end of its veneers. */
        int imageByte(Section section, long place) {
            if (place < section.endWithoutVeneers()) {
                return sectionByte(section, (int) (place - section.place));
            }
            long behind = place - section.placeOfVeneer(0);
            return behind < 0 ? NONE : veneerByte(section, (int) (behind / VENEER_SIZE), (int) (behind % VENEER_SIZE));
        }

        private void dropVeneers(Told told) {
            for (int i = 0; i < told.sections.size(); i++) {
                told.sections.get(i).veneerCount = 0;
            }
            for (int i = 0; i < told.relocations.size(); i++) {
                told.relocations.get(i).veneer = NONE;
            }
        }

        private void layOut(Told told) {
            times++;
            long next = FIRST_PLACE;
            for (int kind = 0; kind < KINDS; kind++) {
                if (told.bases[kind] != NONE) {
                    next = told.bases[kind];
                }
                begins[kind] = next;
                hasSections[kind] = false;
                next = layOutKind(kind, next, told.sections);
                ends[kind] = next;
            }
            findSetEdges(told.sections);
        }

        private long layOutKind(int kind, long begin, ArrayList<Section> sections) {
            long next = begin;
            for (int i = 0; i < sections.size(); i++) {
                Section section = sections.get(i);
                if (section.kind == kind && section.isPlaced()) {
                    section.place = Section.alignedUp(next, section.align);
                    next = section.endWithVeneers();
                    hasSections[kind] = true;
                }
            }
            return next;
        }

        private void findSetEdges(ArrayList<Section> sections) {
            Arrays.fill(starts, NONE);
            Arrays.fill(stops, 0);
            for (int i = 0; i < sections.size(); i++) {
                Section section = sections.get(i);
                if (section.isKept() && section.set >= 0 && section.set < SETS) {
                    widenSet(section.set, section.finalPlace(), section.finalPlace() + section.size);
                }
            }
            for (int set = 0; set < SETS; set++) {
                starts[set] = starts[set] == NONE ? 0 : starts[set];
            }
        }

        private void widenSet(int set, long start, long stop) {
            starts[set] = starts[set] == NONE ? start : Math.min(starts[set], start);
            stops[set] = Math.max(stops[set], stop);
        }

        private boolean addVeneers(ArrayList<Section> sections) {
            int before = veneerSum;
            for (int i = 0; i < sections.size(); i++) {
                if (sections.get(i).isPlaced()) {
                    addVeneersOf(sections.get(i));
                }
            }
            return veneerSum != before;
        }

        private void addVeneersOf(Section section) {
            for (int i = 0; i < section.relocations.size(); i++) {
                Relocation relocation = section.relocations.get(i);
                boolean bareBranch = relocation.type == Type.BRANCH && relocation.veneer == NONE;
                if (bareBranch && !relocation.type.fits(amountWritten(relocation))) {
                    relocation.veneer = veneerFor(section, relocation);
                }
            }
        }

        private int veneerFor(Section section, Relocation relocation) {
            for (int i = 0; i < section.relocations.size(); i++) {
                Relocation other = section.relocations.get(i);
                boolean same = other.addend == relocation.addend && other.symbol.hasTargetOf(relocation.symbol);
                if (same && other.veneer != NONE) {
                    return other.veneer;
                }
            }
            section.veneerCount++;
            veneerSum++;
            return section.veneerCount - 1;
        }

        private long amountWritten(Relocation relocation) {
            if (relocation.veneer != NONE) {
                return relocation.home.placeOfVeneer(relocation.veneer) - relocation.ownPlace();
            }
            long from = relocation.type.relative ? relocation.ownPlace() : 0;
            return targetValue(relocation.symbol) + relocation.addend - from;
        }

        private int sectionByte(Section section, int i) {
            if (section.kind == ZEROS) {
                return 0;
            }
            // Relocations are written in order, so the last that lies over a byte tells it.
            for (int r = section.relocations.size() - 1; r >= 0; r--) {
                Relocation relocation = section.relocations.get(r);
                if (relocation.covers(i)) {
                    return byteOf(amountWritten(relocation), i - relocation.offset);
                }
            }
            return section.byteAt(i);
        }

        private int veneerByte(Section section, int veneer, int i) {
            if (i < VENEER_VALUE_AT) {
                return i == 0 ? VENEER_FIRST_BYTE : 0;
            }
            for (int r = 0; r < section.relocations.size(); r++) {
                Relocation relocation = section.relocations.get(r);
                if (relocation.veneer == veneer) {
                    return byteOf(targetValue(relocation.symbol) + relocation.addend, i - VENEER_VALUE_AT);
                }
            }
            return 0;
        }

        private static int byteOf(long amount, int i) {
            return (int) (amount >> (8 * i)) & 255;
        }
    }
}
