/**
 * "What is refused, found or throws changes nothing but counts": all that an object can be asked for is asked for
 * after such a call, and on a like object without it.
 */
public final class UnchangedTest extends Due {
    private static final int DEEP = 0, REALS = 1, FLOATS = 2, INTS = 3, TICKS = 4, LAYERS = 5, LIST = 6, MAP = 7, PLAIN = 8;
    private static final int VAULT = 9, BANK = 10, TABLE = 11, LAYER = 12, FULL_LIST = 13, FULL_MAP = 14, LONGS = 15, OTHER = 16;
    private static final int MADE = 17;
    private static final int[][] ROWS = {{REALS, 5, 3}, {FLOATS, 4, 2}, {INTS, 2, 2}, {TICKS, 6, 2}, {LONGS, 3, 1}, {OTHER, 5, 1}};
    private static final int[][] HELD = {
        {DEEP, 0, 0}, {DEEP, 1, 0}, {DEEP, 2, 0}, {DEEP, 2, 1}, {DEEP, 3, 0}, {DEEP, 3, 1}, {VAULT, 0, 0}, {VAULT, 7, 0},
        {BANK, 0, 0}, {BANK, 5, 0}, {BANK, 5, 1}, {BANK, 6, 0}, {BANK, 6, 1}, {LAYER, 0, 0}, {LAYER, 1, 0}};
    /** PARAMETERS: ROW OTHER in TABLE, FLOATS by a KEY, INTS that is FROZEN, REALS in a FIELD that is FINAL, TICKS. */
    private static final int IN_TABLE = 0, BY_KEY = 1, FROZEN = 2, FINAL = 3, TICKING = 4, FOUND = 5;
    private static final int[] STEPS = {5, 3, 1, 1, 1};
    private static final long TOO_MUCH = 4000000001L;

    private static final long[][] BEFORE = {told(things(false)), told(things(true))};

    public static void main(String[] args) {
        theTestItself();
        refused();
        refusedWhenFull();
        found();
        thrown();
        reading();
        end();
    }

    private static Run things(boolean crowded) {
        Run x = new Run();
        x.done("part", 3);
        x.done("row", 5, 3);
        x.done("row", 4, 2);
        x.done("row", 2, 2);
        x.done("row", 6, 2);
        x.done("array", 1, 2);
        x.done("list");
        x.done("map");
        x.done("plain", 5);
        x.done("part", 7);
        x.done("part", 6);
        x.done("array", 5, 2);
        x.done("part", 1);
        x.done("list");
        x.done("map");
        x.done("row", 3, 1);
        x.done("row", 5, 1);
        fill(x);
        x.done("mark", 1, 0, 1);
        x.done("mark", 2, 0, 4);
        x.done("mark", 5, 1, 2);
        x.done("lock", VAULT, true);
        x.due(FOUND, "find", DEEP, 0, 0).due(FOUND, "keep");
        x.done("put", REALS, 1, 5, 7);
        x.done("put", INTS, 0, 2, 8);
        x.done("put", OTHER, 0, 5, 9);
        x.done("put", LONGS, 0, 3, 10);
        for (int t = MADE; crowded && t < 80; t++) {
            x.done("plain", t);
        }
        return x;
    }

    private static void fill(Run x) {
        x.done("hold", DEEP, 0, 0, LIST);
        x.done("hold", DEEP, 1, 0, INTS);
        x.done("hold", DEEP, 2, 0, REALS);
        x.done("hold", DEEP, 2, 1, TICKS);
        x.done("hold", DEEP, 3, 0, FLOATS);
        x.done("hold", DEEP, 3, 1, LAYER);
        x.done("hold", BANK, 5, 0, DEEP);
        x.done("hold", BANK, 6, 0, TABLE);
        x.done("hold", BANK, 6, 1, LAYERS);
        x.done("lay", LAYERS, 0, LAYER);
        x.done("lay", TABLE, 0, OTHER);
        x.done("push", LIST, -1);
        x.done("push", LIST, PLAIN);
        x.done("push", LIST, MAP);
        x.done("key", MAP, 999, FLOATS);
        x.done("key", MAP, 5, VAULT);
        x.done("key", MAP, 7, BANK);
        for (int n = 0; n < 12; n++) {
            x.done("push", FULL_LIST, n);
        }
        for (int k = 0; k < 8; k++) {
            x.done("key", FULL_MAP, k, k);
        }
    }

    /** What there is to ask for; fails(0) to fails(7) come first, as asking for the rest finds something. */
    private static long[] told(Run x) {
        long[] all = new long[512];
        int n = 0;
        for (int what = 0; what < 8; what++) {
            all[n++] = x.answer("fails", what);
        }
        for (int what = 0; what < 4; what++) {
            all[n++] = x.answer("count", what);
        }
        for (int what = 0; what < 8; what++) {
            all[n++] = x.answer("meter", what);
        }
        n = toldOfParameters(x, all, n);
        for (int t = 0; t < MADE; t++) {
            all[n++] = x.answer("kind", t);
            all[n++] = x.answer("about", t);
        }
        n = toldOfPlaces(x, all, n);
        n = toldOfItems(x, all, n);
        all[n++] = x.answer("back");
        n = toldOfItems(x, all, n);
        for (int cls = 0; cls < 8; cls++) {
            for (int f = 0; f < FIELDS[cls]; f++) {
                all[n++] = x.answer("mark", cls, f, 0);
            }
        }
        all[n++] = x.answer("lock", VAULT, false);
        return all;
    }

    private static int toldOfParameters(Run x, long[] all, int from) {
        int n = from;
        for (int i = 0; i < FOUND; i++) {
            for (int what = 0; what < 6; what++) {
                all[n++] = x.answer("at", i, what);
            }
            for (int k = 0; k < STEPS[i]; k++) {
                all[n++] = x.answer("step", i, k, 0);
                all[n++] = x.answer("step", i, k, 1);
            }
            for (int what = 0; what < 3; what++) {
                all[n++] = x.answer("under", i, 1, what);
            }
        }
        return n;
    }

    private static int toldOfPlaces(Run x, long[] all, int from) {
        int n = from;
        for (int[] field : HELD) {
            all[n++] = x.answer("held", field[0], field[1], field[2]);
        }
        for (int i = 0; i < 2; i++) {
            all[n++] = x.answer("spot", LAYERS, i);
            all[n++] = x.answer("spot", TABLE, i);
        }
        for (int i = 0; i < 3; i++) {
            all[n++] = x.answer("entry", LIST, i);
        }
        int[] keys = {5, 7, 999};
        for (int k : keys) {
            all[n++] = x.answer("keyed", MAP, k);
        }
        for (int i = 0; i < 12; i++) {
            all[n++] = x.answer("entry", FULL_LIST, i);
        }
        for (int k = 0; k < 9; k++) {
            all[n++] = x.answer("keyed", FULL_MAP, k);
        }
        all[n++] = x.answer("ask", DEEP, 0);
        all[n++] = x.answer("ask", BANK, 0);
        all[n++] = x.answer("ask", VAULT, 0);
        return n;
    }

    private static int toldOfItems(Run x, long[] all, int from) {
        int n = from;
        for (int[] row : ROWS) {
            for (int i = 0; i < row[2]; i++) {
                all[n++] = x.answer("get", row[0], i, row[1]);
            }
        }
        return n;
    }

    private static void same(String call, long[] got, long[] want) {
        int differing = 0;
        for (int n = 0; n < want.length; n++) {
            differing += got[n] == want[n] ? 0 : 1;
        }
        looked(differing == 0 ? null : differing + " answers are others after " + call);
    }

    private static void unchanged(boolean crowded, Object want, String name, Object... args) {
        Run x = things(crowded);
        x.outcomeIs(want, name, args);
        long[] due = BEFORE[crowded ? 1 : 0].clone();
        if (want instanceof Long finding && finding <= NOTHING && finding >= FAR) {
            due[0]++;
            due[(int) (-20 - finding)]++;
        }
        same(name + java.util.Arrays.toString(args), told(x), due);
    }

    private static void stays(long want, String name, Object... args) {
        unchanged(false, want, name, args);
    }

    /** The state that is compared is as it was meant to be. */
    private static void theTestItself() {
        says("What is refused, found or throws changes nothing but counts (a find() that is FULL apart).");
        Run x = things(false);
        int[] rows = {OTHER, FLOATS, INTS, REALS, TICKS};
        for (int i = 0; i < FOUND; i++) {
            x.due(rows[i], "at", i, 0).due(STEPS[i], "at", i, 4).due(i == FROZEN ? 1 : 0, "at", i, 3);
        }
        int[] meters = {4, 7, 3, 1, 0, 1, 1, VAULT};
        for (int what = 0; what < 8; what++) {
            x.due(meters[what], "meter", what);
        }
    }

    private static void refused() {
        says("What is refused, found or throws changes nothing but counts");
        stays(BAD, "row", 8, 1);
        stays(BAD, "row", -1, 1);
        stays(BAD, "row", 0, 25);
        stays(BAD, "array", 8, 1);
        stays(BAD, "array", -1, 1);
        stays(BAD, "array", 0, 13);
        stays(BAD, "part", 0);
        stays(BAD, "part", 8);
        stays(UNKNOWN, "copy", MADE);
        stays(UNKNOWN, "kind", MADE);
        stays(UNKNOWN, "about", -1);
        stays(UNKNOWN, "length", MADE);
        stays(UNKNOWN, "get", MADE, 0, 3);
        stays(BAD, "get", REALS, 0, 8);
        stays(UNKNOWN, "put", MADE, 0, 3, 1);
        stays(BAD, "put", REALS, 0, 8, 1);
        stays(BAD, "put", REALS, 0, 5, TOO_MUCH);
        stays(BAD, "put", REALS, 0, 4, -TOO_MUCH);
        stays(UNKNOWN, "is", MADE, 0);
        stays(BAD, "is", DEEP, 29);
        stays(UNKNOWN, "take", -1, 0);
        stays(BAD, "take", DEEP, -1);
        stays(UNKNOWN, "hold", MADE, 0, 0, -1);
        stays(UNKNOWN, "hold", DEEP, 0, 0, MADE);
        stays(UNKNOWN, "hold", DEEP, 0, 0, -2);
        stays(BAD, "hold", DEEP, 8, 0, -1);
        stays(BAD, "hold", DEEP, 0, 1, -1);
        stays(UNKNOWN, "held", MADE, 0, 0);
        stays(BAD, "held", DEEP, 0, 1);
        stays(UNKNOWN, "lay", MADE, 0, -1);
        stays(UNKNOWN, "lay", LAYERS, 0, MADE);
        stays(UNKNOWN, "spot", -1, 0);
        stays(UNKNOWN, "push", MADE, -1);
        stays(UNKNOWN, "push", LIST, MADE);
        stays(FULL, "push", FULL_LIST, PLAIN);
        stays(FULL, "push", FULL_LIST, -1);
        stays(UNKNOWN, "entry", MADE, 0);
        stays(UNKNOWN, "key", MADE, 5, -1);
        stays(UNKNOWN, "key", MAP, 5, MADE);
        stays(UNKNOWN, "key", MAP, 5, -2);
        stays(BAD, "key", MAP, -1, PLAIN);
        stays(BAD, "key", MAP, 1000, -1);
        stays(FULL, "key", FULL_MAP, 8, PLAIN);
        stays(UNKNOWN, "keyed", MADE, 5);
        stays(UNKNOWN, "lock", MADE, false);
        stays(BAD, "mark", 8, 0, 0);
        stays(BAD, "mark", 0, 1, 0);
        stays(BAD, "mark", 1, 0, 8);
        stays(BAD, "mark", 1, 0, -1);
        stays(UNKNOWN, "ask", MADE, 0);
        stays(BAD, "ask", DEEP, 3);
        stays(UNKNOWN, "find", MADE, 0, 0);
        stays(BAD, "find", DEEP, 5, 0);
        stays(BAD, "find", DEEP, -1, 0);
        refusedParameters();
    }

    private static void refusedParameters() {
        says("What is refused, found or throws changes nothing but counts");
        stays(BAD, "at", FOUND, 0);
        stays(BAD, "at", 0, 6);
        stays(BAD, "step", 0, 5, 0);
        stays(BAD, "step", 0, 0, 2);
        stays(BAD, "under", 0, 6, 0);
        stays(BAD, "under", 0, 0, 3);
        stays(BAD, "meter", 8);
        stays(BAD, "set", FOUND, REALS);
        stays(BAD, "set", -1, REALS);
        stays(UNKNOWN, "set", BY_KEY, MADE);
        stays(UNKNOWN, "set", BY_KEY, -1);
        stays(STATE, "set", FINAL, OTHER);
        stays(BAD, "each", FOUND, 0, 1);
        stays(BAD, "each", BY_KEY, 4, 1);
        stays(STATE, "each", FROZEN, 0, 1);
        stays(BAD, "sum", FOUND, 3);
        stays(BAD, "sum", BY_KEY, 4);
        stays(BAD, "fails", 8);
        stays(BAD, "count", 4);
    }

    private static void refusedWhenFull() {
        says("What is refused, found or throws changes nothing but counts");
        unchanged(true, (long) FULL, "row", 0, 1);
        unchanged(true, (long) FULL, "row", 0, -1);
        unchanged(true, (long) FULL, "array", 0, 1);
        unchanged(true, (long) FULL, "array", 0, -1);
        unchanged(true, (long) FULL, "list");
        unchanged(true, (long) FULL, "map");
        unchanged(true, (long) FULL, "part", 1);
        unchanged(true, (long) FULL, "plain", 1);
        unchanged(true, (long) FULL, "copy", REALS);
        unchanged(true, (long) FULL, "copy", DEEP);
    }

    private static void found() {
        says("What is refused, found or throws changes nothing but counts");
        stays(SIZE, "row", 0, -1);
        stays(SIZE, "array", 0, -1);
        stays(KIND, "copy", DEEP);
        stays(KIND, "length", LIST);
        stays(KIND, "get", DEEP, 0, 3);
        stays(OUT, "get", REALS, 3, 5);
        stays(KIND, "get", REALS, 0, 4);
        stays(KIND, "put", DEEP, 0, 3, 1);
        stays(OUT, "put", REALS, 3, 5, 1);
        stays(OUT, "put", REALS, -1, 5, 1);
        stays(KIND, "put", FLOATS, 0, 5, 1);
        stays(KIND, "put", TICKS, 0, 0, 1);
        stays(CAST, "hold", REALS, 0, 0, -1);
        stays(CAST, "hold", LAYER, 2, 0, -1);
        stays(CAST, "hold", DEEP, 2, 0, FLOATS);
        stays(CAST, "hold", DEEP, 3, 1, BANK);
        stays(CAST, "hold", BANK, 5, 0, REALS);
        stays(CAST, "hold", BANK, 6, 0, LAYERS);
        stays(CAST, "hold", BANK, 6, 1, TABLE);
        stays(CAST, "held", LAYER, 2, 0);
        stays(CAST, "push", MAP, -1);
        stays(CAST, "push", LAYERS, LAYER);
        stays(CAST, "entry", LAYERS, 0);
        stays(OUT, "entry", LIST, 3);
        stays(OUT, "entry", LIST, -1);
        stays(CAST, "key", LIST, 5, -1);
        stays(CAST, "keyed", LIST, 5);
        stays(CAST, "lock", BANK, false);
        stays(CAST, "lock", PLAIN, true);
        stays(CAST, "ask", REALS, 0);
        stays(CAST, "ask", PLAIN, 1);
        stays(CAST, "ask", VAULT, 2);
        stays(NOTHING, "ask", LAYER, 0);
        stays(NOTHING, "ask", BANK, 0);
        stays(TROUBLE, "ask", VAULT, 0);
        stays(CAST, "find", LIST, 0, 0);
        stays(KIND, "set", BY_KEY, DEEP);
        stays(KIND, "set", FINAL, PLAIN);
        stays(CAST, "set", IN_TABLE, FLOATS);
        stays(KIND, "each", TICKING, 0, 1);
        stays(KIND, "sum", TICKING, 3);
        stays(KIND, "sum", FINAL, 3);
    }

    private static void thrown() {
        says("What is refused, found or throws changes nothing but counts");
        unchanged(false, CAST_THROWN, "take", DEEP, 20);
        unchanged(false, CAST_THROWN, "lay", LIST, 0, LAYER);
        unchanged(false, CAST_THROWN, "lay", LAYERS, 0, REALS);
        unchanged(false, CAST_THROWN, "lay", TABLE, 0, FLOATS);
        unchanged(false, CAST_THROWN, "lay", TABLE, 0, DEEP);
        unchanged(false, INDEX_THROWN, "lay", LAYERS, 2, LAYER);
        unchanged(false, INDEX_THROWN, "lay", LAYERS, -1, -1);
        unchanged(false, INDEX_THROWN, "lay", TABLE, 2, OTHER);
        unchanged(false, STORE_THROWN, "lay", LAYERS, 0, BANK);
        unchanged(false, STORE_THROWN, "lay", LAYERS, 1, VAULT);
        unchanged(false, CAST_THROWN, "spot", DEEP, 0);
        unchanged(false, INDEX_THROWN, "spot", LAYERS, 2);
        unchanged(false, INDEX_THROWN, "spot", TABLE, -1);
    }

    /** A call that only tells changes nothing either. */
    private static void reading() {
        says("PARAMETERS are gone (the METER stays) as a FIELD, a SPOT, an ENTRY, a KEY, MARKS, a VAULT is told anew");
        stays(4, "kind", DEEP);
        stays(5, "about", PLAIN);
        stays(2, "length", TABLE);
        stays(9, "get", OTHER, 0, 5);
        stays(1, "is", DEEP, 18);
        stays(0, "is", DEEP, 20);
        stays(4, "take", DEEP, 24);
        stays(REALS, "held", DEEP, 2, 0);
        stays(LAYER, "spot", LAYERS, 0);
        stays(NONE, "entry", LIST, 0);
        stays(FLOATS, "keyed", MAP, 999);
        stays(NONE, "keyed", MAP, 6);
        stays(301, "ask", DEEP, 1);
        stays(OTHER, "at", 0, 0);
        stays(60, "step", 0, 3, 1);
        stays(2, "under", 0, 1, 0);
        stays(VAULT, "meter", 7);
        stays(8, "sum", FROZEN, 3);
        stays(0, "fails", 0);
        stays(FOUND, "count", 3);
    }
}
