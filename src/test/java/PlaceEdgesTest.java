/** The boundary cases of places: FIELDS, SPOTS, ENTRIES, KEYS, VAULTS, MARKS; promises 16 to 25. */
public final class PlaceEdgesTest extends Due {
    private static final int ANY = -1;
    /** What the FIELDS take, by class and f: any THING, or a VIEW. */
    private static final int[][] TAKES = {
        {ANY}, {ANY}, {5, ANY}, {ANY, 17}, {4, ANY}, {16, 16}, {13, 9}, {ANY}};
    private static final int[][] TELLERS = {{0}, {0, 1}, {0, 1, 2}, {0, 1, 2, 3}, {0, 1, 4}, {0, 5}, {0, 5, 6}, {0, 7}};
    /** The THINGS of things() that go as VIEW 4, 5, 9, 13, 16, 17. */
    private static final int[] FLOATS = {4}, DOUBLES = {5}, STACKS = {9, 10, 11}, TABLES = {13};
    private static final int[] PARTS = {16, 17, 18, 19, 20, 21, 22}, LAYERS = {16, 17, 18, 19};
    private static final int MADE = 26;

    public static void main(String[] args) {
        fieldsTake();
        fieldsOfOthers();
        noSuchField();
        fieldUnknown();
        fieldsBareAgain();
        fieldsByThemselves();
        heldRefusals();
        spotsTake();
        noSuchSpot();
        spotUnknown();
        noArray();
        spotsBareAgain();
        twelveEntries();
        entriesOut();
        noList();
        eightKeys();
        keysFromTo();
        keysGone();
        noMap();
        vaults();
        marksFromTo();
        marksOfFields();
        end();
    }

    /** 0 .. 7 ROWS by LANE, 8 .. 15 ARRAYS by SORT, 16 .. 22 PARTS of class 1 .. 7, 23 LIST, 24 MAP, 25 PLAIN. */
    private static Run things() {
        Run x = new Run();
        for (int lane = 0; lane < 8; lane++) {
            x.done("row", lane, 1);
        }
        for (int sort = 0; sort < 8; sort++) {
            x.done("array", sort, 2);
        }
        for (int cls = 1; cls < 8; cls++) {
            x.done("part", cls);
        }
        x.done("list");
        x.done("map");
        x.done("plain", 5);
        return x;
    }

    private static boolean has(int[] row, int number) {
        for (int each : row) {
            if (each == number) {
                return true;
            }
        }
        return false;
    }

    private static boolean goesAs(int t, int view) {
        switch (view) {
            case 4:
                return has(FLOATS, t);
            case 5:
                return has(DOUBLES, t);
            case 9:
                return has(STACKS, t);
            case 13:
                return has(TABLES, t);
            case 16:
                return has(PARTS, t);
            case 17:
                return has(LAYERS, t);
            default:
                return true;
        }
    }

    private static void fieldsTake() {
        says("PART: 0 NOTE (any THING). LAYER: 0 WEIGHT (any). DENSE: 0 WEIGHT (ROWS of doubles), 1 BIAS (any).",
            "DEEP: 0 WEIGHT (any), 1 INNER (LAYERS). NORM: 0 SCALE (ROWS of floats), 1 NOTE (any). BLOCK: 0 LEFT, 1 RIGHT (PARTS).",
            "BANK: 0 TABLE (ARRAYS of ROWS of doubles), 1 STACK (ARRAYS of LAYERS, DENSES or NORMS). VAULT: 0 SECRET (any).",
            "CAST: the FIELD does not take t.");
        for (int own = 1; own < 8; own++) {
            for (int cls : TELLERS[own]) {
                for (int f = 0; f < FIELDS[cls]; f++) {
                    oneFieldTakes(15 + own, cls, f);
                }
            }
        }
    }

    private static void oneFieldTakes(int p, int cls, int f) {
        Run x = things();
        int last = NONE;
        int refused = 0;
        for (int t = 0; t < MADE; t++) {
            boolean takes = goesAs(t, TAKES[cls][f]);
            last = takes ? t : last;
            refused += takes ? 0 : 1;
            x.due(takes ? 1 : CAST, "hold", p, cls, f, t).due(last, "held", p, cls, f);
        }
        x.due(refused, "fails", 2).due(refused, "fails", 0);
        x.due(1, "hold", p, cls, f, -1).due(NONE, "held", p, cls, f);
    }

    private static void fieldsOfOthers() {
        says("A PART has all FIELDS that its class and those above it tell", "CAST: p is no PART of that class");
        for (int p = 0; p < MADE; p++) {
            Run x = things();
            boolean isPart = p >= 16 && p <= 22;
            int refused = 0;
            for (int cls = 0; cls < 8; cls++) {
                boolean tells = isPart && has(TELLERS[p - 15], cls);
                for (int f = 0; f < FIELDS[cls]; f++) {
                    x.due(tells ? 1 : CAST, "hold", p, cls, f, -1).due(tells ? NONE : CAST, "held", p, cls, f);
                    refused += tells ? 0 : 2;
                }
            }
            x.due(refused, "fails", 2).due(refused, "fails", 0);
        }
    }

    private static void noSuchField() {
        says("BAD (cls, f: no such FIELD)");
        Run x = things();
        for (int cls : outside(0, 7)) {
            x.due(BAD, "hold", 18, cls, 0, 5).due(BAD, "held", 18, cls, 0).due(BAD, "mark", cls, 0, 1);
        }
        for (int cls = 0; cls < 8; cls++) {
            int p = cls == 0 ? 16 : 15 + cls;
            x.due(NONE, "held", p, cls, 0).due(NONE, "held", p, cls, FIELDS[cls] - 1);
            int[] fields = {-1, FIELDS[cls], 2, 3, MIN, MAX, MIN + 1};
            for (int f : fields) {
                x.due(BAD, "hold", p, cls, f, -1).due(BAD, "held", p, cls, f).due(BAD, "mark", cls, f, 0);
            }
        }
        x.due(0, "fails", 0);
    }

    private static void fieldUnknown() {
        says("UNKNOWN (p, t)");
        Run x = things();
        for (int p : outside(0, MADE - 1)) {
            x.due(UNKNOWN, "hold", p, 0, 0, 0).due(UNKNOWN, "hold", p, 0, 0, -1).due(UNKNOWN, "held", p, 0, 0);
        }
        x.due(1, "hold", 16, 0, 0, MADE - 1).due(1, "hold", 16, 1, 0, 0);
        int[] noThings = {-2, -3, MADE, MADE + 1, 79, 80, MIN, MAX};
        for (int t : noThings) {
            x.due(UNKNOWN, "hold", 16, 0, 0, t);
        }
        x.due(MADE - 1, "held", 16, 0, 0).due(0, "held", 16, 1, 0).due(0, "fails", 0);
    }

    private static void fieldsBareAgain() {
        says("(-1: it is bare): 1");
        Run x = things();
        x.due(1, "hold", 18, 3, 1, -1).due(1, "hold", 18, 3, 1, 18).due(18, "held", 18, 3, 1);
        x.due(1, "hold", 18, 3, 1, 18).due(1, "hold", 18, 3, 1, -1).due(NONE, "held", 18, 3, 1);
        x.due(1, "hold", 18, 3, 1, -1).due(NONE, "held", 18, 3, 1).due(0, "fails", 0);
    }

    private static void fieldsByThemselves() {
        says("each by itself: a DEEP has three WEIGHTS, a NORM two NOTES");
        for (int own = 1; own < 8; own++) {
            Run x = things();
            int other = x.done("part", own);
            for (int cls : TELLERS[own]) {
                for (int f = 0; f < FIELDS[cls]; f++) {
                    x.due(1, "hold", 15 + own, cls, f, loadFor(cls, f));
                }
            }
            for (int cls : TELLERS[own]) {
                for (int f = 0; f < FIELDS[cls]; f++) {
                    x.due(loadFor(cls, f), "held", 15 + own, cls, f).due(NONE, "held", other, cls, f);
                }
            }
        }
    }

    /** A THING that the FIELD takes, another one for each FIELD of a PART. */
    private static int loadFor(int cls, int f) {
        int[][] loads = {{0}, {1}, {5, 2}, {3, 19}, {4, 6}, {16, 17}, {13, 9}, {7}};
        return loads[cls][f];
    }

    private static void heldRefusals() {
        says("The THING that a FIELD holds; NONE. UNKNOWN, BAD; CAST: p is no PART of that class.");
        Run x = things();
        x.due(1, "hold", 16, 0, 0, 0).due(0, "held", 16, 0, 0);
        x.due(UNKNOWN, "held", MADE, 0, 0).due(BAD, "held", 16, 8, 0).due(CAST, "held", 16, 2, 0).due(1, "fails", 2);
    }

    private static void spotsTake() {
        says("t is no PART (of SORTS 0 .. 4), no ROW of the LANE (5, 6, 7)",
            "Store: a PART, but none that the SORT names.");
        int[][] takes = {PARTS, LAYERS, {17, 18}, {19}, {20, 21}, DOUBLES, FLOATS, {2}};
        for (int sort = 0; sort < 8; sort++) {
            Run x = things();
            int a = 8 + sort;
            int last = NONE;
            for (int t = 0; t < MADE; t++) {
                boolean taken = has(takes[sort], t);
                Object outcome = taken ? (Object) 1L : sort < 5 && has(PARTS, t) ? STORE_THROWN : CAST_THROWN;
                last = taken ? t : last;
                x.outcomeIs(outcome, "lay", a, 1, t).due(last, "spot", a, 1).due(NONE, "spot", a, 0);
            }
            x.due(0, "fails", 0).due(1, "lay", a, 1, -1).due(NONE, "spot", a, 1);
        }
    }

    private static void noSuchSpot() {
        says("Index: no such SPOT.");
        int[] loads = {16, 16, 17, 19, 20, 5, 4, 2};
        for (int sort = 0; sort < 8; sort++) {
            int[] sizes = {0, 1, 2, 12};
            for (int n : sizes) {
                Run x = things();
                x.due(MADE, "array", sort, n);
                for (int i : outside(0, n - 1)) {
                    x.thrown(INDEX_THROWN, "lay", MADE, i, loads[sort]).thrown(INDEX_THROWN, "lay", MADE, i, -1);
                    x.thrown(INDEX_THROWN, "spot", MADE, i);
                }
                if (n > 0) {
                    x.due(1, "lay", MADE, 0, loads[sort]).due(1, "lay", MADE, n - 1, loads[sort]);
                    x.due(loads[sort], "spot", MADE, 0).due(loads[sort], "spot", MADE, n - 1);
                    x.due(1, "lay", MADE, n - 1, -1).due(NONE, "spot", MADE, n - 1);
                }
                x.due(0, "fails", 0);
            }
        }
    }

    private static void spotUnknown() {
        says("UNKNOWN (a, t). Cast: a is no ARRAY");
        Run x = things();
        for (int a : outside(0, MADE - 1)) {
            x.due(UNKNOWN, "lay", a, 0, 16).due(UNKNOWN, "lay", a, 0, -1).due(UNKNOWN, "spot", a, 0);
        }
        int[] noThings = {-2, -3, MADE, MADE + 1, 79, 80, MIN, MAX};
        for (int t : noThings) {
            x.due(UNKNOWN, "lay", 8, 0, t);
        }
        x.due(NONE, "spot", 8, 0).due(0, "fails", 0);
    }

    private static void noArray() {
        says("The THING in SPOT i; NONE. UNKNOWN. Cast: a is no ARRAY. Index.");
        Run x = things();
        x.done("push", 23, 16);
        x.done("key", 24, 0, 16);
        for (int a = 0; a < MADE; a++) {
            if (a < 8 || a > 15) {
                x.thrown(CAST_THROWN, "lay", a, 0, -1).thrown(CAST_THROWN, "lay", a, 0, 16).thrown(CAST_THROWN, "spot", a, 0);
            } else {
                x.due(1, "lay", a, 0, -1).due(NONE, "spot", a, 0);
            }
        }
        x.due(16, "entry", 23, 0).due(16, "keyed", 24, 0).due(0, "fails", 0);
    }

    private static void spotsBareAgain() {
        says("SPOT i of an ARRAY has THING t (-1: it is bare): 1.");
        Run x = things();
        x.due(MADE, "array", 0, 12);
        for (int i = 0; i < 12; i++) {
            x.due(1, "lay", MADE, i, 16 + i % 7);
        }
        for (int i = 0; i < 12; i += 2) {
            x.due(1, "lay", MADE, i, -1);
        }
        for (int i = 0; i < 12; i++) {
            x.due(i % 2 == 0 ? NONE : 16 + i % 7, "spot", MADE, i);
        }
        x.due(12, "length", MADE);
    }

    private static void twelveEntries() {
        says("A LIST has 0 .. 12 ENTRIES, bare ones, too.",
            "A LIST has a THING (-1: a bare ENTRY) more at its end: how many. UNKNOWN (l, t); CAST: no LIST; FULL.");
        Run x = things();
        for (int n = 1; n <= 12; n++) {
            x.due(n, "push", 23, n % 3 == 0 ? -1 : n + 10);
        }
        x.due(FULL, "push", 23, 0).due(FULL, "push", 23, -1).due(FULL, "push", 23, 23).due(12, "about", 23);
        for (int n = 1; n <= 12; n++) {
            x.due(n % 3 == 0 ? NONE : n + 10, "entry", 23, n - 1);
        }
        x.due(0, "fails", 0);
        Run bare = new Run();
        bare.done("list");
        for (int n = 1; n <= 12; n++) {
            bare.due(n, "push", 0, -1);
        }
        bare.due(FULL, "push", 0, -1).due(NONE, "entry", 0, 11).due(OUT, "entry", 0, 12);
        Run itself = new Run();
        itself.done("list");
        itself.due(1, "push", 0, 0).due(0, "entry", 0, 0);
    }

    private static void entriesOut() {
        says("The THING in ENTRY i; NONE. UNKNOWN; CAST: no LIST; OUT.");
        Run x = new Run();
        x.done("list");
        for (int n = 0; n <= 12; n++) {
            x.due(OUT, "entry", 0, -1).due(OUT, "entry", 0, n).due(OUT, "entry", 0, MAX).due(OUT, "entry", 0, MIN);
            if (n < 12) {
                x.due(n + 1, "push", 0, 0).due(0, "entry", 0, n);
            }
        }
        for (int i : outside(0, 11)) {
            x.due(OUT, "entry", 0, i);
        }
        x.due(13 * 4 + outside(0, 11).length, "fails", 3).due(13 * 4 + outside(0, 11).length, "fails", 0);
    }

    private static void noList() {
        says("UNKNOWN (l, t); CAST: no LIST");
        Run x = things();
        int refused = 0;
        for (int l = 0; l < MADE; l++) {
            if (l != 23) {
                x.due(CAST, "push", l, 0).due(CAST, "push", l, -1).due(CAST, "entry", l, 0);
                refused += 3;
            }
        }
        x.due(refused, "fails", 2).due(refused, "fails", 0);
        for (int l : outside(0, MADE - 1)) {
            x.due(UNKNOWN, "push", l, 0).due(UNKNOWN, "push", l, -1).due(UNKNOWN, "entry", l, 0);
        }
        int[] noThings = {-2, -3, MADE, MADE + 1, 79, 80, MIN, MAX};
        for (int t : noThings) {
            x.due(UNKNOWN, "push", 23, t);
        }
        x.due(0, "about", 23).due(refused, "fails", 0);
    }

    private static void eightKeys() {
        says("A MAP has up to 8 KEYS (0 .. 999), each with a THING.",
            "FULL: a ninth KEY");
        Run x = things();
        int[] keys = {500, 999, 0, 998, 1, 250, 750, 499};
        for (int n = 0; n < 8; n++) {
            x.due(n + 1, "key", 24, keys[n], n);
        }
        x.due(FULL, "key", 24, 2, 0).due(FULL, "key", 24, 997, 24).due(NONE, "keyed", 24, 2).due(8, "about", 24);
        for (int n = 0; n < 8; n++) {
            x.due(n, "keyed", 24, keys[n]).due(8, "key", 24, keys[n], n + 8).due(n + 8, "keyed", 24, keys[n]);
        }
        x.due(8, "key", 24, 2, -1).due(FULL, "key", 24, 2, 0);
        x.due(7, "key", 24, 0, -1).due(8, "key", 24, 2, 0).due(FULL, "key", 24, 0, 0).due(NONE, "keyed", 24, 0);
        x.due(0, "keyed", 24, 2).due(9, "keyed", 24, 999).due(0, "fails", 0);
    }

    private static void keysFromTo() {
        says("UNKNOWN (m, t), BAD (k)");
        Run x = things();
        x.due(1, "key", 24, 0, 3).due(2, "key", 24, 999, 4).due(3, "keyed", 24, 0).due(4, "keyed", 24, 999);
        for (int k : outside(0, 999)) {
            x.due(BAD, "key", 24, k, 3).due(BAD, "key", 24, k, -1);
        }
        says("The THING of KEY k; NONE.");
        for (int k : outside(0, 999)) {
            x.due(NONE, "keyed", 24, k);
        }
        x.due(NONE, "keyed", 24, 1).due(NONE, "keyed", 24, 998).due(2, "about", 24).due(0, "fails", 0);
    }

    private static void keysGone() {
        says("(-1: there is no such KEY any more, if there was): how many KEYS");
        Run x = things();
        x.due(0, "key", 24, 5, -1).due(1, "key", 24, 5, 24).due(24, "keyed", 24, 5).due(1, "key", 24, 6, -1);
        x.due(0, "key", 24, 5, -1).due(NONE, "keyed", 24, 5).due(0, "key", 24, 5, -1).due(0, "about", 24);
        int[] keys = {10, 20, 30};
        for (int gone : keys) {
            for (int n = 0; n < 3; n++) {
                x.done("key", 24, keys[n], n);
            }
            x.due(2, "key", 24, gone, -1).due(2, "about", 24);
            for (int n = 0; n < 3; n++) {
                x.due(keys[n] == gone ? NONE : n, "keyed", 24, keys[n]);
            }
        }
        x.due(0, "fails", 0);
    }

    private static void noMap() {
        says("BAD (k); CAST: no MAP");
        Run x = things();
        int refused = 0;
        for (int m = 0; m < MADE; m++) {
            if (m != 24) {
                x.due(CAST, "key", m, 0, 0).due(CAST, "key", m, 0, -1).due(CAST, "keyed", m, 0);
                refused += 3;
            }
        }
        x.due(refused, "fails", 2).due(refused, "fails", 0);
        for (int m : outside(0, MADE - 1)) {
            x.due(UNKNOWN, "key", m, 0, 0).due(UNKNOWN, "key", m, 0, -1).due(UNKNOWN, "keyed", m, 0);
        }
        int[] noThings = {-2, -3, MADE, MADE + 1, 79, 80, MIN, MAX};
        for (int t : noThings) {
            x.due(UNKNOWN, "key", 24, 0, t);
        }
        x.due(0, "about", 24).due(refused, "fails", 0);
    }

    private static void vaults() {
        says("A VAULT is SHUT, or open: 1 if it was SHUT, else 0. UNKNOWN; CAST: no VAULT.");
        Run x = things();
        x.due(0, "lock", 22, false).due(0, "lock", 22, true).due(1, "lock", 22, true).due(1, "lock", 22, false);
        x.due(0, "lock", 22, false).due(0, "lock", 22, true);
        int other = x.done("part", 7);
        x.due(0, "lock", other, false).due(7, "ask", other, 0).due(TROUBLE, "ask", 22, 0);
        int refused = 0;
        for (int p = 0; p < MADE; p++) {
            if (p != 22) {
                x.due(CAST, "lock", p, true).due(CAST, "lock", p, false);
                refused += 2;
            }
        }
        for (int p : outside(0, MADE)) {
            x.due(UNKNOWN, "lock", p, false).due(UNKNOWN, "lock", p, true);
        }
        x.due(refused, "fails", 2).due(refused + 1, "fails", 0).due(1, "lock", 22, true);
        says("A VAULT is open (at first) or SHUT.");
        x.due(1, "hold", 22, 7, 0, 3).due(3, "held", 22, 7, 0).due(1, "hold", 22, 0, 0, 4).due(4, "held", 22, 0, 0);
    }

    private static void marksFromTo() {
        says("1 FROZEN, 2 BUFFER, 4 FINAL, together; none at first",
            "MARKS of a FIELD that a class tells (0 .. 7): what they were. BAD.");
        for (int cls = 0; cls < 8; cls++) {
            for (int f = 0; f < FIELDS[cls]; f++) {
                Run x = new Run();
                for (int marks = 0; marks < 8; marks++) {
                    x.due(marks == 0 ? 0 : marks - 1, "mark", cls, f, marks);
                }
                for (int marks : outside(0, 7)) {
                    x.due(BAD, "mark", cls, f, marks);
                }
                x.due(7, "mark", cls, f, 3).due(3, "mark", cls, f, 3).due(3, "mark", cls, f, 0).due(0, "mark", cls, f, 0);
                x.due(0, "fails", 0);
            }
        }
    }

    private static void marksOfFields() {
        says("MARKS of a FIELD (as a class tells it, of all PARTS that have it)");
        Run x = new Run();
        int marks = 1;
        for (int cls = 0; cls < 8; cls++) {
            for (int f = 0; f < FIELDS[cls]; f++) {
                x.due(0, "mark", cls, f, marks % 8);
                marks++;
            }
        }
        marks = 1;
        for (int cls = 0; cls < 8; cls++) {
            for (int f = 0; f < FIELDS[cls]; f++) {
                x.due(marks % 8, "mark", cls, f, 0);
                marks++;
            }
        }
        Run y = new Run();
        for (int cls = 1; cls < 8; cls++) {
            y.done("part", cls);
        }
        y.due(0, "mark", 0, 0, 2);
        for (int p = 0; p < 7; p++) {
            y.due(0, "find", p, 0, 0).due(1, "meter", 5);
        }
        y.due(2, "mark", 0, 0, 0).due(0, "mark", 1, 0, 2);
        int[] buffers = {1, 1, 1, 1, 0, 0, 0};
        for (int p = 0; p < 7; p++) {
            y.due(0, "find", p, 0, 0).due(buffers[p], "meter", 5);
        }
        y.due(2, "mark", 1, 0, 0).due(0, "mark", 2, 0, 2);
        int[] denseBuffers = {0, 1, 1, 0, 0, 0, 0};
        for (int p = 0; p < 7; p++) {
            y.due(0, "find", p, 0, 0).due(denseBuffers[p], "meter", 5);
        }
    }
}
