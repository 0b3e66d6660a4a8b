/** Finds the rows that a model of parts, arrays, lists and maps holds, and changes them in place. */
public final class ParameterFind {
    public static final int NONE = -1;
    public static final int NOTHING = -21, CAST = -22, OUT = -23, KIND = -24, SIZE = -25, TROUBLE = -26, FAR = -27;
    public static final int UNKNOWN = -101, BAD = -102, FULL = -103, STATE = -104;

    private static final int MOST_THINGS = 80;
    private static final int MOST_ITEMS = 24;
    private static final int MOST_SPOTS = 12;
    private static final int MOST_ENTRIES = 12;
    private static final int MOST_KEYS = 8;
    private static final int HIGHEST_KEY = 999;
    private static final int MOST_PARAMETERS = 40;
    private static final int MOST_NESTED_SIZES = 10;

    private static final int ROW = 0, ARRAY = 1, LIST = 2, MAP = 3, PART = 4, PLAIN = 5;
    private static final int BYTES = 0, SHORTS = 1, INTS = 2, LONGS = 3, FLOATS = 4, DOUBLES = 5, TICKS = 6, STAMPS = 7;
    private static final int LAYER = 1, DENSE = 2, DEEP = 3, NORM = 4, BLOCK = 5, BANK = 6, VAULT = 7;
    private static final int FROZEN = 1, BUFFER = 2, FINAL = 4, ALL_MARKS = 7;

    private static final int LANES = 8, SORTS = 8, CLASSES = 8, VIEWS = 29, RULES = 5, ACTS = 4, FINDINGS = 7;
    private static final int AS_PART = 16, AS_LAYER_OR_BLOCK = 24;
    /** Not a VIEW of the face: what a FIELD that takes any THING asks for. */
    private static final int AS_ANY = VIEWS;

    private static final int METERS = 8;
    private static final int ENTERED = 0, BARE = 1, AGAIN = 2, PLAINS = 3, LEFT = 4, BUFFERS = 5, SHUT = 6, SHUT_LAST = 7;

    private final Thing[] things;
    private int thingCount;
    private final Search search;
    private final Row[] keptRows;
    private int keptCount;
    /** How often each FINDING was answered: 0 all, then NOTHING to FAR. */
    private final int[] answered;

    public ParameterFind() {
        things = new Thing[MOST_THINGS];
        search = new Search();
        keptRows = new Row[MOST_PARAMETERS];
        answered = new int[FINDINGS + 1];
    }

    // ---- things

    public int row(int lane, int n) {
        if (lane < 0 || lane >= LANES || n > MOST_ITEMS) {
            return BAD;
        }
        if (thingCount >= MOST_THINGS) {
            return FULL;
        }
        if (n < 0) {
            return found(SIZE);
        }
        return add(Row.isReal(lane) ? new RealRow(thingCount, lane, n) : new WholeRow(thingCount, lane, n));
    }

    public int array(int sort, int n) {
        if (sort < 0 || sort >= SORTS || n > MOST_SPOTS) {
            return BAD;
        }
        if (thingCount >= MOST_THINGS) {
            return FULL;
        }
        if (n < 0) {
            return found(SIZE);
        }
        return add(new Shelf(thingCount, ARRAY, sort, n));
    }

    public int list() {
        return thingCount >= MOST_THINGS ? FULL : add(new Shelf(thingCount, LIST, 0, MOST_ENTRIES));
    }

    public int map() {
        return thingCount >= MOST_THINGS ? FULL : add(new Keyring(thingCount));
    }

    public int part(int cls) {
        if (cls < LAYER || cls > VAULT) {
            return BAD;
        }
        return thingCount >= MOST_THINGS ? FULL : add(new Part(thingCount, cls));
    }

    public int plain(int v) {
        return thingCount >= MOST_THINGS ? FULL : add(new Plain(thingCount, v));
    }

    public int copy(int t) {
        Thing thing = thingOf(t);
        if (thing == null) {
            return UNKNOWN;
        }
        if (thingCount >= MOST_THINGS) {
            return FULL;
        }
        return thing instanceof Row row ? add(row.twin(thingCount)) : found(KIND);
    }

    public int kind(int t) {
        Thing thing = thingOf(t);
        return thing == null ? UNKNOWN : thing.kind;
    }

    public int about(int t) {
        Thing thing = thingOf(t);
        return thing == null ? UNKNOWN : thing.told();
    }

    public int length(int t) {
        Thing thing = thingOf(t);
        if (thing == null) {
            return UNKNOWN;
        }
        int extent = thing.extent();
        return extent < 0 ? found(extent) : extent;
    }

    // ---- items

    public long get(int t, int i, int as) {
        Thing thing = thingOf(t);
        if (thing == null) {
            return UNKNOWN;
        }
        if (as < 0 || as >= LANES) {
            return BAD;
        }
        if (!(thing instanceof Row row)) {
            return found(KIND);
        }
        if (i < 0 || i >= row.size) {
            return found(OUT);
        }
        return Row.widens(row.type, as) ? row.wordAs(i, as) : found(KIND);
    }

    public int put(int t, int i, int as, long v) {
        Thing thing = thingOf(t);
        if (thing == null) {
            return UNKNOWN;
        }
        if (as < 0 || as >= LANES || v != Row.fitting(as, v)) {
            return BAD;
        }
        if (!(thing instanceof Row row)) {
            return found(KIND);
        }
        if (i < 0 || i >= row.size) {
            return found(OUT);
        }
        if (!Row.widens(as, row.type)) {
            return found(KIND);
        }
        row.write(i, as, v);
        return 1;
    }

    // ---- views

    public int is(int t, int view) {
        Thing thing = thingOf(t);
        if (thing == null) {
            return UNKNOWN;
        }
        if (view < 0 || view >= VIEWS) {
            return BAD;
        }
        return thing.goesAs(view) ? 1 : 0;
    }

    public int take(int t, int view) throws ClassCastException {
        Thing thing = thingOf(t);
        if (thing == null) {
            return UNKNOWN;
        }
        if (view < 0 || view >= VIEWS) {
            return BAD;
        }
        if (!thing.goesAs(view)) {
            throw new ClassCastException();
        }
        return thing.kind;
    }

    // ---- places

    public int hold(int p, int cls, int f, int t) {
        Thing thing = thingOf(p);
        Thing load = thingOf(t);
        if (thing == null || load == null && t != NONE) {
            return UNKNOWN;
        }
        if (!Part.isField(cls, f)) {
            return BAD;
        }
        if (!(thing instanceof Part part) || !part.goesAs(AS_PART + cls)) {
            return found(CAST);
        }
        int place = Part.placeOf(cls, f);
        if (!part.takes(place, load)) {
            return found(CAST);
        }
        part.fill(place, load);
        search.forget();
        return 1;
    }

    public int held(int p, int cls, int f) {
        Thing thing = thingOf(p);
        if (thing == null) {
            return UNKNOWN;
        }
        if (!Part.isField(cls, f)) {
            return BAD;
        }
        if (!(thing instanceof Part part) || !part.goesAs(AS_PART + cls)) {
            return found(CAST);
        }
        return numberOf(part.thingIn(Part.placeOf(cls, f)));
    }

    public int lay(int a, int i, int t) throws ClassCastException, ArrayIndexOutOfBoundsException, ArrayStoreException {
        Thing thing = thingOf(a);
        Thing load = thingOf(t);
        if (thing == null || load == null && t != NONE) {
            return UNKNOWN;
        }
        if (!(thing instanceof Shelf array) || array.kind != ARRAY || !array.handles(load)) {
            throw new ClassCastException();
        }
        if (i < 0 || i >= array.size) {
            throw new ArrayIndexOutOfBoundsException();
        }
        if (!array.takes(i, load)) {
            throw new ArrayStoreException();
        }
        array.fill(i, load);
        search.forget();
        return 1;
    }

    public int spot(int a, int i) throws ClassCastException, ArrayIndexOutOfBoundsException {
        Thing thing = thingOf(a);
        if (thing == null) {
            return UNKNOWN;
        }
        if (!(thing instanceof Shelf array) || array.kind != ARRAY) {
            throw new ClassCastException();
        }
        if (i < 0 || i >= array.size) {
            throw new ArrayIndexOutOfBoundsException();
        }
        return numberOf(array.thingIn(i));
    }

    public int push(int l, int t) {
        Thing thing = thingOf(l);
        Thing load = thingOf(t);
        if (thing == null || load == null && t != NONE) {
            return UNKNOWN;
        }
        if (!(thing instanceof Shelf list) || list.kind != LIST) {
            return found(CAST);
        }
        if (list.size >= MOST_ENTRIES) {
            return FULL;
        }
        list.append(load);
        search.forget();
        return list.size;
    }

    public int entry(int l, int i) {
        Thing thing = thingOf(l);
        if (thing == null) {
            return UNKNOWN;
        }
        if (!(thing instanceof Shelf list) || list.kind != LIST) {
            return found(CAST);
        }
        if (i < 0 || i >= list.size) {
            return found(OUT);
        }
        return numberOf(list.thingIn(i));
    }

    public int key(int m, int k, int t) {
        Thing thing = thingOf(m);
        Thing load = thingOf(t);
        if (thing == null || load == null && t != NONE) {
            return UNKNOWN;
        }
        if (k < 0 || k > HIGHEST_KEY) {
            return BAD;
        }
        if (!(thing instanceof Keyring map)) {
            return found(CAST);
        }
        if (load != null && map.size >= MOST_KEYS && map.placeOf(k) == NONE) {
            return FULL;
        }
        if (load == null) {
            map.drop(k);
        } else {
            map.bind(k, load);
        }
        search.forget();
        return map.size;
    }

    public int keyed(int m, int k) {
        Thing thing = thingOf(m);
        if (thing == null) {
            return UNKNOWN;
        }
        if (!(thing instanceof Keyring map)) {
            return found(CAST);
        }
        return numberOf(map.thingIn(map.placeOf(k)));
    }

    public int lock(int p, boolean shut) {
        Thing thing = thingOf(p);
        if (thing == null) {
            return UNKNOWN;
        }
        if (!(thing instanceof Part vault) || vault.type != VAULT) {
            return found(CAST);
        }
        boolean before = vault.shut;
        vault.shut = shut;
        search.forget();
        return before ? 1 : 0;
    }

    public int mark(int cls, int f, int marks) {
        if (!Part.isField(cls, f) || marks < 0 || marks > ALL_MARKS) {
            return BAD;
        }
        int before = search.marksOf(cls, f);
        search.changeMarks(cls, f, marks);
        search.forget();
        return before;
    }

    public int ask(int p, int q) {
        Thing thing = thingOf(p);
        if (thing == null) {
            return UNKNOWN;
        }
        if (q < 0 || q > 2) {
            return BAD;
        }
        if (!(thing instanceof Part part)) {
            return found(CAST);
        }
        if (q == 1) {
            return part.title();
        }
        if (q == 2 && !part.goesAs(AS_LAYER_OR_BLOCK)) {
            return found(CAST);
        }
        int size = part.nestedSize(1);
        if (size < 0) {
            return found(size);
        }
        return q == 2 ? 2 * size : size;
    }

    // ---- finding

    public int find(int p, int rule, int n) {
        Thing thing = thingOf(p);
        if (thing == null) {
            return UNKNOWN;
        }
        if (rule < 0 || rule >= RULES) {
            return BAD;
        }
        return thing instanceof Part part ? search.run(part, rule, n) : found(CAST);
    }

    public int at(int i, int what) {
        Parameter parameter = search.parameterAt(i);
        if (parameter == null) {
            return BAD;
        }
        switch (what) {
            case 0:
                return parameter.row.number;
            case 1:
                return parameter.row.type;
            case 2:
                return parameter.row.size;
            case 3:
                return parameter.frozen ? 1 : 0;
            case 4:
                return parameter.steps();
            case 5:
                return parameter.again;
            default:
                return BAD;
        }
    }

    public int step(int i, int k, int what) {
        Parameter parameter = search.parameterAt(i);
        if (parameter == null || k < 0 || k >= parameter.steps() || what < 0 || what > 1) {
            return BAD;
        }
        Holder holder = parameter.holderAfter(k);
        return what == 0 ? holder.stepKind() : holder.stepNumber(parameter.placeAfter(k));
    }

    public int under(int i, int n, int what) {
        Parameter parameter = search.parameterAt(i);
        if (parameter == null || n < 0 || n > parameter.steps() || what < 0 || what > 2) {
            return BAD;
        }
        int total = 0;
        for (int j = 0; j < search.size; j++) {
            Parameter other = search.parameterAt(j);
            if (other != null && parameter.beginsLike(other, n)) {
                total += other.share(what);
            }
        }
        return total;
    }

    public int meter(int what) {
        return what < 0 || what >= METERS ? BAD : search.meters[what];
    }

    // ---- changes

    public int set(int i, int t) {
        Parameter parameter = search.parameterAt(i);
        if (parameter == null) {
            return BAD;
        }
        Thing thing = thingOf(t);
        if (thing == null) {
            return UNKNOWN;
        }
        if (!(thing instanceof Row row)) {
            return found(KIND);
        }
        Holder holder = parameter.holder;
        if ((search.marksIn(holder, parameter.place) & FINAL) != 0) {
            return STATE;
        }
        if (!holder.takes(parameter.place, row)) {
            return found(CAST);
        }
        holder.fill(parameter.place, row);
        parameter.row = row;
        return 1;
    }

    public int each(int i, int act, long v) {
        Parameter parameter = search.parameterAt(i);
        if (parameter == null || act < 0 || act >= ACTS) {
            return BAD;
        }
        if (parameter.frozen) {
            return STATE;
        }
        Row row = parameter.row;
        int lane = row.type;
        if (lane == TICKS) {
            return found(KIND);
        }
        for (int k = 0; k < row.size; k++) {
            row.write(k, lane, Row.fitting(lane, acted(act, row.wordAs(k, lane), v)));
        }
        return row.size;
    }

    public long sum(int i, int as) {
        Parameter parameter = search.parameterAt(i);
        if (parameter == null || as != LONGS && as != DOUBLES) {
            return BAD;
        }
        Row row = parameter.row;
        // a ROW without ITEMS has none that does not WIDEN
        if (row.size > 0 && !Row.widens(row.type, as)) {
            return found(KIND);
        }
        return as == LONGS ? row.wholeSum() : Row.wordOf(row.realSum());
    }

    public int keep() {
        keptCount = 0;
        for (int i = 0; i < search.size; i++) {
            Parameter parameter = search.parameterAt(i);
            if (parameter != null && !isKept(parameter.row) && keptCount < MOST_PARAMETERS) {
                parameter.row.store();
                keptRows[keptCount] = parameter.row;
                keptCount++;
            }
        }
        return keptCount;
    }

    public int back() {
        for (int i = 0; i < keptCount; i++) {
            Row row = keptRows[i];
            if (row != null) {
                row.restore();
            }
        }
        return keptCount;
    }

    // ---- counts

    public int fails(int what) {
        return what < 0 || what > FINDINGS ? BAD : answered[what];
    }

    public int count(int what) {
        switch (what) {
            case 0:
                return thingCount;
            case 1:
                return search.size;
            case 2:
                return search.began;
            case 3:
                return keptCount;
            default:
                return BAD;
        }
    }

    // ---- what the calls share

    private Thing thingOf(int t) {
        return t >= 0 && t < thingCount ? things[t] : null;
    }

    private static int numberOf(Thing thing) {
        return thing == null ? NONE : thing.number;
    }

    private int add(Thing thing) {
        if (thingCount >= MOST_THINGS) {
            return FULL;
        }
        things[thingCount] = thing;
        thingCount++;
        return thing.number;
    }

    private int found(int finding) {
        int slot = 1 + NOTHING - finding;
        if (slot >= 1 && slot <= FINDINGS) {
            answered[0]++;
            answered[slot]++;
        }
        return finding;
    }

    private boolean isKept(Row row) {
        for (int i = 0; i < keptCount; i++) {
            if (keptRows[i] == row) {
                return true;
            }
        }
        return false;
    }

    private static long acted(int act, long own, long v) {
        switch (act) {
            case 0:
                return own + v;
            case 1:
                return own * v;
            case 2:
                return v - own;
            default:
                return Math.min(own, v);
        }
    }

    private abstract static class Thing {
        private static final int[] VIEW_KINDS = {
            ROW, ROW, ROW, ROW, ROW, ROW, ROW, ROW,
            ARRAY, ARRAY, ARRAY, ARRAY, ARRAY, ARRAY, ARRAY, ARRAY,
            PART, PART, PART, PART, PART, PART, PART, PART,
            PART, ARRAY, PLAIN, LIST, MAP};
        /** Bit n of a VIEW's entry: THINGS of type n go as it. */
        private static final int[] VIEW_TYPES = {
            1, 2, 4, 8, 16, 32, 64, 128,
            0b11111, 0b1110, 0b100, 0b1000, 0b10000, 0b100000, 0b1000000, 0b10000000,
            0b11111110, 0b11110, 0b1100, 0b1000, 0b10000, 0b1100000, 0b1000000, 0b10000000,
            0b1111110, 0b11110, 1, 1, 1};

        final int number;
        final int kind;
        /** The LANE, SORT or CLASS; 0 of LISTS, MAPS and PLAINS. */
        final int type;

        Thing(int number, int kind, int type) {
            this.number = number;
            this.kind = kind;
            this.type = type;
        }

        int told() {
            return type;
        }

        /** How many ITEMS or SPOTS, or KIND. */
        int extent() {
            return KIND;
        }

        boolean goesAs(int view) {
            if (view == AS_ANY) {
                return true;
            }
            return view >= 0 && view < VIEWS && kind == VIEW_KINDS[view] && (VIEW_TYPES[view] >> type & 1) == 1;
        }
    }

    private static final class Plain extends Thing {
        final int value;

        Plain(int number, int value) {
            super(number, PLAIN, 0);
            this.value = value;
        }

        int told() {
            return value;
        }
    }

    private abstract static class Row extends Thing {
        private static final long WORD_LIMIT = 4000000000L;
        /** Bit n of a LANE's entry: it WIDENS to LANE n. */
        private static final int[] WIDENINGS = {
            0b00111111, 0b00111110, 0b00111100, 0b00111000, 0b00110000, 0b00100000, 0b01000000, 0b10111100};

        final int size;

        Row(int number, int lane, int size) {
            super(number, ROW, lane);
            this.size = size;
        }

        abstract long wordAs(int i, int lane);

        abstract double realAt(int i);

        /** ITEM i becomes what a WORD makes in a LANE that WIDENS to this ROW's. */
        abstract void write(int i, int lane, long word);

        abstract Row twin(int number);

        abstract void store();

        abstract void restore();

        int extent() {
            return size;
        }

        long wholeSum() {
            long total = 0;
            for (int i = 0; i < size; i++) {
                total += wordAs(i, LONGS);
            }
            return total;
        }

        double realSum() {
            double total = 0;
            for (int i = 0; i < size; i++) {
                total += realAt(i);
            }
            return total;
        }

        static boolean isReal(int lane) {
            return lane == FLOATS || lane == DOUBLES;
        }

        static boolean widens(int from, int to) {
            return from >= 0 && from < LANES && to >= 0 && to < LANES && (WIDENINGS[from] >> to & 1) == 1;
        }

        /** The WORD nearest to this one that a LANE takes. */
        static long fitting(int lane, long word) {
            return isReal(lane) ? Math.max(-WORD_LIMIT, Math.min(WORD_LIMIT, word)) : word;
        }

        static long wholeOf(int lane, long word) {
            switch (lane) {
                case BYTES:
                    return (byte) word;
                case SHORTS:
                    return (short) word;
                case INTS:
                    return (int) word;
                case TICKS:
                    return word & 1;
                case STAMPS:
                    return word & 65535;
                default:
                    return word;
            }
        }

        static double realOf(int lane, long word) {
            double real = word / 4.0;
            return lane == FLOATS ? (float) real : real;
        }

        static double widened(long whole, int lane) {
            return lane == FLOATS ? (float) whole : (double) whole;
        }

        static long wordOf(double real) {
            return (long) (4.0 * real);
        }
    }

    /** A ROW of a LANE of whole numbers, ticks or stamps. */
    private static final class WholeRow extends Row {
        private final long[] items;
        private long[] kept;

        WholeRow(int number, int lane, int size) {
            super(number, lane, size);
            items = new long[size];
        }

        long wordAs(int i, int lane) {
            if (i < 0 || i >= size) {
                return 0;
            }
            return isReal(lane) ? wordOf(widened(items[i], lane)) : items[i];
        }

        double realAt(int i) {
            return i < 0 || i >= size ? 0 : widened(items[i], DOUBLES);
        }

        void write(int i, int lane, long word) {
            if (i >= 0 && i < size) {
                items[i] = wholeOf(lane, word);
            }
        }

        Row twin(int number) {
            WholeRow twin = new WholeRow(number, type, size);
            System.arraycopy(items, 0, twin.items, 0, size);
            return twin;
        }

        void store() {
            if (kept == null) {
                kept = new long[size];
            }
            System.arraycopy(items, 0, kept, 0, size);
        }

        void restore() {
            if (kept != null) {
                System.arraycopy(kept, 0, items, 0, size);
            }
        }
    }

    /** A ROW of floats or doubles: a double tells each float, too. */
    private static final class RealRow extends Row {
        private final double[] items;
        private double[] kept;

        RealRow(int number, int lane, int size) {
            super(number, lane, size);
            items = new double[size];
        }

        long wordAs(int i, int lane) {
            return wordOf(realAt(i));
        }

        double realAt(int i) {
            return i < 0 || i >= size ? 0 : items[i];
        }

        void write(int i, int lane, long word) {
            if (i >= 0 && i < size) {
                items[i] = isReal(lane) ? realOf(lane, word) : widened(wholeOf(lane, word), type);
            }
        }

        Row twin(int number) {
            RealRow twin = new RealRow(number, type, size);
            System.arraycopy(items, 0, twin.items, 0, size);
            return twin;
        }

        void store() {
            if (kept == null) {
                kept = new double[size];
            }
            System.arraycopy(items, 0, kept, 0, size);
        }

        void restore() {
            if (kept != null) {
                System.arraycopy(kept, 0, items, 0, size);
            }
        }
    }

    /** A THING with places. How a finding first met it stays with it: each is met first but once, so this tells all PATHS. */
    private abstract static class Holder extends Thing {
        final Thing[] loads;
        int size;

        int metIn;
        Holder from;
        int fromPlace;
        int depth;
        boolean frozen;
        int nextPlace;

        Holder(int number, int kind, int type, int room) {
            super(number, kind, type);
            loads = new Thing[room];
        }

        abstract int stepNumber(int place);

        abstract boolean takes(int place, Thing load);

        int stepKind() {
            switch (kind) {
                case ARRAY:
                    return 1;
                case LIST:
                    return 2;
                case MAP:
                    return 3;
                default:
                    return 0;
            }
        }

        Thing thingIn(int place) {
            return place >= 0 && place < size ? loads[place] : null;
        }

        void fill(int place, Thing load) {
            if (place >= 0 && place < size) {
                loads[place] = load;
            }
        }

        void meet(int finding, Holder holder, int place, boolean cold) {
            metIn = finding;
            from = holder;
            fromPlace = place;
            depth = holder == null ? 0 : holder.depth + 1;
            frozen = cold;
            nextPlace = 0;
        }
    }

    /** An ARRAY, or a LIST. */
    private static final class Shelf extends Holder {
        private static final int[] SORT_VIEWS = {16, 17, 18, 20, 21, DOUBLES, FLOATS, INTS};

        Shelf(int number, int kind, int sort, int room) {
            super(number, kind, sort, room);
            size = kind == ARRAY ? room : 0;
        }

        int told() {
            return kind == ARRAY ? type : size;
        }

        int extent() {
            return kind == ARRAY ? size : KIND;
        }

        int stepNumber(int place) {
            return place;
        }

        boolean takes(int place, Thing load) {
            return load == null || kind == LIST || load.goesAs(sortView());
        }

        /** Whether a THING may be offered to an ARRAY at all, which may still not store it. */
        boolean handles(Thing load) {
            return load == null || load.goesAs(sortView() >= AS_PART ? AS_PART : sortView());
        }

        void append(Thing load) {
            if (size < loads.length) {
                loads[size] = load;
                size++;
            }
        }

        private int sortView() {
            return type >= 0 && type < SORTS ? SORT_VIEWS[type] : AS_ANY;
        }
    }

    /** A MAP: its KEYS lie in order, the least first. */
    private static final class Keyring extends Holder {
        private final int[] keys;

        Keyring(int number) {
            super(number, MAP, 0, MOST_KEYS);
            keys = new int[MOST_KEYS];
        }

        int told() {
            return size;
        }

        int stepNumber(int place) {
            return place >= 0 && place < size ? keys[place] : NONE;
        }

        boolean takes(int place, Thing load) {
            return true;
        }

        int placeOf(int k) {
            for (int place = 0; place < size; place++) {
                if (keys[place] == k) {
                    return place;
                }
            }
            return NONE;
        }

        void bind(int k, Thing load) {
            int place = placeOf(k);
            if (place != NONE) {
                fill(place, load);
            } else if (size < MOST_KEYS) {
                insert(k, load);
            }
        }

        void drop(int k) {
            int place = placeOf(k);
            if (place == NONE) {
                return;
            }
            size--;
            for (int i = place; i < size; i++) {
                keys[i] = keys[i + 1];
                loads[i] = loads[i + 1];
            }
            loads[size] = null;
        }

        private void insert(int k, Thing load) {
            int place = size;
            for (; place > 0 && keys[place - 1] > k; place--) {
                keys[place] = keys[place - 1];
                loads[place] = loads[place - 1];
            }
            keys[place] = k;
            loads[place] = load;
            size++;
        }
    }

    /** Its places are the FIELDS of PART, then those of each class below, so a FIELD has one place in all PARTS that have it. */
    private static final class Part extends Holder {
        private static final int[] ABOVE = {NONE, 0, LAYER, DENSE, LAYER, 0, BLOCK, 0};
        private static final int[] FIELD_COUNTS = {1, 1, 2, 2, 2, 2, 2, 1};
        private static final int[] FIRST_PLACES = {0, 1, 2, 4, 2, 1, 3, 1};
        /** The VIEW that FIELD f of a class takes, at twice the class and f. */
        private static final int[] FIELD_VIEWS = {
            AS_ANY, AS_ANY, AS_ANY, AS_ANY, DOUBLES, AS_ANY, AS_ANY, 17,
            FLOATS, AS_ANY, AS_PART, AS_PART, 13, 9, AS_ANY, AS_ANY};

        boolean shut;

        Part(int number, int cls) {
            super(number, PART, cls, roomOf(cls));
            size = loads.length;
        }

        /** How many FIELDS a class and those above it tell. */
        private static int roomOf(int cls) {
            return cls >= 0 && cls < CLASSES ? FIRST_PLACES[cls] + FIELD_COUNTS[cls] : 0;
        }

        static boolean isField(int cls, int f) {
            return cls >= 0 && cls < CLASSES && f >= 0 && f < FIELD_COUNTS[cls];
        }

        static int placeOf(int cls, int f) {
            return isField(cls, f) ? FIRST_PLACES[cls] + f : NONE;
        }

        /** The class that tells the FIELD in a place. */
        int tellerOf(int place) {
            int cls = type;
            for (int level = 0; level < CLASSES && cls > 0 && place < FIRST_PLACES[cls]; level++) {
                cls = ABOVE[cls];
            }
            return cls;
        }

        int fieldOf(int place) {
            return place - FIRST_PLACES[tellerOf(place)];
        }

        boolean isSecret(int place) {
            return tellerOf(place) == VAULT;
        }

        int stepNumber(int place) {
            return 10 * tellerOf(place) + fieldOf(place);
        }

        boolean takes(int place, Thing load) {
            int slot = 2 * tellerOf(place) + fieldOf(place);
            return load == null || slot >= 0 && slot < 2 * CLASSES && load.goesAs(FIELD_VIEWS[slot]);
        }

        int title() {
            int base = 100 * type;
            switch (type) {
                case DENSE:
                case DEEP:
                    return base + 1;
                case BLOCK:
                    return base + 2;
                case BANK:
                    return 3 * (base + 2);
                default:
                    return base;
            }
        }

        /** SIZE, or what it finds; nesting tells the how many-eth SIZE within one another this is. */
        int nestedSize(int nesting) {
            return nesting > MOST_NESTED_SIZES ? FAR : sizeAs(type, nesting);
        }

        private int sizeAs(int cls, int nesting) {
            switch (cls) {
                case LAYER:
                case DENSE:
                    return extentOf(LAYER, 0);
                case DEEP:
                    return deepSize(nesting);
                case NORM:
                    return normSize();
                case BLOCK:
                    return blockSize(nesting);
                case BANK:
                    return bankSize(nesting);
                case VAULT:
                    return shut ? TROUBLE : 7;
                default:
                    return 0;
            }
        }

        private int deepSize(int nesting) {
            int above = sizeAs(DENSE, nesting);
            if (above < 0) {
                return above;
            }
            int inner = sizeOf(DEEP, 1, nesting);
            return inner < 0 ? inner : above + inner;
        }

        private int normSize() {
            int scale = extentOf(NORM, 0);
            return scale < 0 ? scale : 2 * scale;
        }

        private int blockSize(int nesting) {
            int left = sizeOf(BLOCK, 0, nesting);
            if (left < 0) {
                return left;
            }
            int right = sizeOf(BLOCK, 1, nesting);
            return right < 0 ? right : left + right;
        }

        private int bankSize(int nesting) {
            int above = sizeAs(BLOCK, nesting);
            if (above < 0) {
                return above;
            }
            int table = extentOf(BANK, 0);
            return table < 0 ? table : above + table;
        }

        private int extentOf(int cls, int f) {
            Thing load = thingIn(placeOf(cls, f));
            return load == null ? NOTHING : load.extent();
        }

        private int sizeOf(int cls, int f, int nesting) {
            return thingIn(placeOf(cls, f)) instanceof Part part ? part.nestedSize(nesting + 1) : NOTHING;
        }
    }

    private static final class Parameter {
        Row row;
        Holder holder;
        int place;
        boolean frozen;
        int again;

        Parameter(Row row, Holder holder) {
            this.row = row;
            this.holder = holder;
        }

        int steps() {
            return holder.depth + 1;
        }

        /** Where the first n STEPS lead; n is below steps(). */
        Holder holderAfter(int n) {
            Holder reached = holder;
            for (int depth = holder.depth; depth > n && reached.from != null; depth--) {
                reached = reached.from;
            }
            return reached;
        }

        /** The place by which STEP n goes on. */
        int placeAfter(int n) {
            return n >= holder.depth ? place : holderAfter(n + 1).fromPlace;
        }

        /** Each place is in one PATH alone, so the same STEPS lead to the same THING. */
        boolean beginsLike(Parameter other, int n) {
            if (n >= steps()) {
                return other == this;
            }
            return other.steps() > n && other.holderAfter(n) == holderAfter(n);
        }

        int share(int what) {
            if (what == 1) {
                return row.size;
            }
            return what == 0 || frozen ? 1 : 0;
        }
    }

    /** The MARKS, and the latest finding. */
    private static final class Search {
        /** Each place of each THING is come to once at most, and each THING is left once. */
        private static final int MOST_MOVES = MOST_THINGS * (MOST_SPOTS + 1);

        private final int[] marks;
        private final Parameter[] parameters;
        private final int[] meters;
        private int size;
        private int began;
        private int rule;
        private int ruleNumber;
        private boolean overflowed;

        Search() {
            marks = new int[2 * CLASSES];
            parameters = new Parameter[MOST_PARAMETERS];
            meters = new int[METERS];
            meters[SHUT_LAST] = NONE;
        }

        int marksOf(int cls, int f) {
            return Part.isField(cls, f) ? marks[2 * cls + f] : 0;
        }

        void changeMarks(int cls, int f, int changed) {
            if (Part.isField(cls, f)) {
                marks[2 * cls + f] = changed;
            }
        }

        int marksIn(Holder holder, int place) {
            return holder instanceof Part part ? marksOf(part.tellerOf(place), part.fieldOf(place)) : 0;
        }

        Parameter parameterAt(int i) {
            return i >= 0 && i < size ? parameters[i] : null;
        }

        void forget() {
            size = 0;
        }

        int run(Part start, int byRule, int n) {
            restart(byRule, n);
            enter(start, null, NONE, false);
            Holder holder = start;
            for (int moves = 0; moves < MOST_MOVES && holder != null && !overflowed; moves++) {
                if (holder.nextPlace >= holder.size) {
                    holder = holder.from;
                } else {
                    Holder entered = goTo(holder, holder.nextPlace);
                    holder.nextPlace++;
                    holder = entered == null ? holder : entered;
                }
            }
            if (overflowed) {
                forget();
                return FULL;
            }
            return size;
        }

        private void restart(int byRule, int n) {
            began++;
            rule = byRule;
            ruleNumber = n;
            overflowed = false;
            forget();
            for (int i = 0; i < METERS; i++) {
                meters[i] = 0;
            }
            meters[SHUT_LAST] = NONE;
        }

        /** Answers the THING whose places are next, or null: those of the same one. */
        private Holder goTo(Holder holder, int place) {
            int fieldMarks = marksIn(holder, place);
            if ((fieldMarks & BUFFER) != 0) {
                meters[BUFFERS]++;
                return null;
            }
            if (holder instanceof Part part && part.shut && part.isSecret(place)) {
                meters[SHUT]++;
                meters[SHUT_LAST] = part.number;
                return null;
            }
            return comeTo(holder, place, holder.frozen || (fieldMarks & FROZEN) != 0);
        }

        private Holder comeTo(Holder holder, int place, boolean cold) {
            Thing thing = holder.thingIn(place);
            if (thing == null) {
                meters[BARE]++;
            } else if (thing instanceof Row row) {
                comeToRow(row, holder, place, cold);
            } else if (!(thing instanceof Holder next)) {
                meters[PLAINS]++;
            } else if (next.metIn == began) {
                meters[AGAIN]++;
            } else {
                enter(next, holder, place, cold);
                return next;
            }
            return null;
        }

        private void enter(Holder next, Holder holder, int place, boolean cold) {
            next.meet(began, holder, place, cold);
            if (next.kind == PART) {
                meters[ENTERED]++;
            }
        }

        private void comeToRow(Row row, Holder holder, int place, boolean cold) {
            if (!ruleTakes(row)) {
                meters[LEFT]++;
                return;
            }
            Parameter known = parameterOf(row);
            if (known != null) {
                known.again++;
                meters[AGAIN]++;
            } else if (size >= MOST_PARAMETERS) {
                overflowed = true;
            } else {
                addParameter(row, holder, place, cold);
            }
        }

        private boolean ruleTakes(Row row) {
            switch (rule) {
                case 1:
                    return Row.isReal(row.type);
                case 2:
                    return row.size >= ruleNumber;
                case 3:
                    return row.type == ruleNumber;
                case 4:
                    return row.type != TICKS && row.type != ruleNumber;
                default:
                    return true;
            }
        }

        private Parameter parameterOf(Row row) {
            for (int i = 0; i < size; i++) {
                Parameter parameter = parameters[i];
                if (parameter != null && parameter.row == row) {
                    return parameter;
                }
            }
            return null;
        }

        /** Uses what an earlier finding made again, so that findings make at most 40 objects in all. */
        private void addParameter(Row row, Holder holder, int place, boolean cold) {
            Parameter parameter = parameters[size];
            if (parameter == null) {
                parameter = new Parameter(row, holder);
                parameters[size] = parameter;
            }
            parameter.row = row;
            parameter.holder = holder;
            parameter.place = place;
            parameter.frozen = cold;
            parameter.again = 0;
            size++;
        }
    }
}
