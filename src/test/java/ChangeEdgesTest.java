/** The boundary cases of changes: promises 32 to 36. */
public final class ChangeEdgesTest extends Due {
    private static final int BYTES = 0, SHORTS = 1, INTS = 2, LONGS = 3, FLOATS = 4, DOUBLES = 5, TICKS = 6, STAMPS = 7;
    private static final int LAYER = 1, DENSE = 2, DEEP = 3, NORM = 4, VAULT = 7;
    private static final int AND = 0, TIMES = 1, LESS = 2, LESSER = 3;
    private static final long LIMIT = 4000000000L;

    public static void main(String[] args) {
        setRefusals();
        setKinds();
        setFinal();
        setFinalOnTheWay();
        setFieldCast();
        setArrayCast();
        setEntriesAndKeys();
        setFirstAndLastPlaces();
        setLeavesTheRest();
        setTheSame();
        setTwiceTheSameRow();
        eachWraps();
        eachNearest();
        eachLimits();
        eachLesser();
        eachHowMany();
        eachRefusals();
        eachTicks();
        sumsWrap();
        sumsOfDoubles();
        sumOrder();
        sumsOfEmpty();
        sumRefusals();
        sumKinds();
        keepNone();
        keepForty();
        keepInstead();
        keepEachOnce();
        backAgain();
        backAfterwards();
        end();
    }

    /** LAYER 0 with ROW 1 of n ITEMS of a LANE as its WEIGHT, found: PARAMETER 0. */
    private static Run oneRow(int lane, int n) {
        Run x = new Run();
        x.done("part", LAYER);
        x.done("row", lane, n);
        x.done("hold", 0, 1, 0, 1);
        x.due(1, "find", 0, 0, 0);
        return x;
    }

    // ---- set

    private static void setRefusals() {
        says("BAD: no such; UNKNOWN (t)");
        Run x = oneRow(LONGS, 1);
        for (int i : outside(0, 0)) {
            x.due(BAD, "set", i, 1);
        }
        for (int t : outside(0, 1)) {
            x.due(UNKNOWN, "set", 0, t);
        }
        x.due(0, "fails", 0).due(1, "held", 0, 1, 0).due(1, "at", 0, 0).due(1, "set", 0, 1);
        x.due(1, "hold", 0, 1, 0, 1).due(BAD, "set", 0, 1);
    }

    private static void setKinds() {
        says("KIND: t is no ROW");
        Run x = oneRow(LONGS, 1);
        int[] others = {0, x.done("array", 5, 1), x.done("list"), x.done("map"), x.done("part", VAULT), x.done("plain", 1)};
        int kinds = 0;
        for (int t : others) {
            kinds++;
            x.due(KIND, "set", 0, t).due(kinds, "fails", 4);
        }
        x.due(kinds, "fails", 0).due(1, "at", 0, 0).due(1, "held", 0, 1, 0);
    }

    private static void setFinal() {
        says("STATE: a FIELD that is FINAL");
        for (int marks = 0; marks < 8; marks++) {
            if ((marks & 2) == 0) {
                Run x = oneRow(LONGS, 1);
                x.done("row", LONGS, 2);
                x.done("mark", 1, 0, marks);
                x.done("mark", 0, 0, 7);
                x.due(1, "find", 0, 0, 0);
                boolean isFinal = (marks & 4) != 0;
                x.due(isFinal ? STATE : 1, "set", 0, 2).due(isFinal ? 1 : 2, "held", 0, 1, 0);
                x.due(isFinal ? 1 : 2, "at", 0, 0).due(0, "fails", 0);
                // hold() is not set()
                x.due(1, "hold", 0, 1, 0, 2);
            }
        }
    }

    /** FINAL is what the last STEP tells, not a FIELD further up, nor another FIELD of the same name. */
    private static void setFinalOnTheWay() {
        says("The place that the last STEP of PARAMETER i's PATH tells");
        Run x = new Run();
        x.done("part", DEEP);
        x.done("list");
        x.done("map");
        x.done("array", 6, 1);
        for (int n = 0; n < 5; n++) {
            x.done("row", n == 3 ? FLOATS : DOUBLES, n);
        }
        x.done("hold", 0, 1, 0, 1);
        x.done("push", 1, 4);
        x.done("hold", 0, 2, 1, 2);
        x.done("key", 2, 5, 5);
        x.done("hold", 0, 3, 0, 3);
        x.done("lay", 3, 0, 7);
        x.done("hold", 0, 2, 0, 6);
        x.done("mark", 1, 0, 4);
        x.done("mark", 2, 1, 4);
        x.done("mark", 3, 0, 4);
        x.due(4, "find", 0, 0, 0);
        x.due(1, "set", 0, 8).due(8, "entry", 1, 0).due(1, "set", 1, 8).due(8, "held", 0, 2, 0);
        x.due(1, "set", 2, 8).due(8, "keyed", 2, 5).due(1, "set", 3, 7).due(7, "spot", 3, 0).due(0, "fails", 0);
        x.done("mark", 2, 0, 4);
        x.due(2, "find", 0, 0, 0).due(8, "at", 0, 0).due(2, "at", 0, 5);
        Run y = new Run();
        y.done("part", DEEP);
        y.done("row", DOUBLES, 1);
        y.done("row", DOUBLES, 2);
        y.done("row", DOUBLES, 3);
        for (int cls = 1; cls < 4; cls++) {
            y.done("hold", 0, cls, 0, cls);
        }
        y.done("mark", 2, 0, 4);
        y.due(3, "find", 0, 0, 0).due(1, "set", 0, 2).due(STATE, "set", 1, 3).due(1, "set", 2, 1);
        y.due(2, "held", 0, 1, 0).due(2, "held", 0, 2, 0).due(1, "held", 0, 3, 0);
    }

    private static void setFieldCast() {
        says("CAST: the FIELD, the ARRAY does not take it.");
        int[][] fields = {{DENSE, 2, 0, DOUBLES}, {NORM, 4, 0, FLOATS}, {DENSE, 2, 1, NONE}, {NORM, 4, 1, NONE},
            {LAYER, 1, 0, NONE}, {DEEP, 3, 0, NONE}, {VAULT, 7, 0, NONE}, {LAYER, 0, 0, NONE}};
        for (int[] field : fields) {
            Run x = new Run();
            x.done("part", field[0]);
            int last = x.done("row", field[3] == NONE ? LONGS : field[3], 3);
            x.done("hold", 0, field[1], field[2], last);
            x.due(1, "find", 0, 0, 0);
            int casts = 0;
            for (int lane = 0; lane < 8; lane++) {
                int row = x.done("row", lane, lane);
                boolean takes = field[3] == NONE || field[3] == lane;
                last = takes ? row : last;
                casts += takes ? 0 : 1;
                x.due(takes ? 1 : CAST, "set", 0, row).due(last, "held", 0, field[1], field[2]).due(last, "at", 0, 0);
            }
            x.due(casts, "fails", 2).due(casts, "fails", 0).due(1, "count", 1);
        }
    }

    private static void setArrayCast() {
        says("CAST: the FIELD, the ARRAY does not take it.");
        int[] lanes = {DOUBLES, FLOATS, INTS};
        for (int sort = 5; sort < 8; sort++) {
            Run x = new Run();
            x.done("part", LAYER);
            x.done("array", sort, 12);
            x.done("hold", 0, 1, 0, 1);
            int last = x.done("row", lanes[sort - 5], 3);
            x.done("lay", 1, 11, last);
            x.due(1, "find", 0, 0, 0);
            for (int lane = 0; lane < 8; lane++) {
                int row = x.done("row", lane, lane);
                boolean takes = lane == lanes[sort - 5];
                last = takes ? row : last;
                x.due(takes ? 1 : CAST, "set", 0, row).due(last, "spot", 1, 11).due(NONE, "spot", 1, 10);
            }
            x.due(7, "fails", 2).due(7, "fails", 0).due(last, "at", 0, 0);
        }
    }

    private static void setEntriesAndKeys() {
        says("holds THING t, which is PARAMETER i from now on");
        for (int lane = 0; lane < 8; lane++) {
            Run x = new Run();
            x.done("part", LAYER);
            x.done("list");
            x.done("map");
            x.done("row", 0, 1);
            x.done("row", 1, 1);
            x.done("hold", 0, 0, 0, 1);
            x.done("hold", 0, 1, 0, 2);
            x.done("push", 1, 3);
            x.done("key", 2, 999, 4);
            x.due(2, "find", 0, 0, 0);
            int row = x.done("row", lane, 24);
            x.due(1, "set", 0, row).due(row, "entry", 1, 0).due(1, "set", 1, row).due(row, "keyed", 2, 999);
            x.due(row, "at", 0, 0).due(lane, "at", 0, 1).due(24, "at", 0, 2).due(row, "at", 1, 0).due(1, "about", 2);
        }
    }

    private static void setFirstAndLastPlaces() {
        says("The place that the last STEP of PARAMETER i's PATH tells holds THING t");
        Run x = new Run();
        x.done("part", DENSE);
        x.done("array", 7, 12);
        x.done("list");
        x.done("map");
        x.done("hold", 0, 0, 0, 1);
        x.done("hold", 0, 1, 0, 2);
        x.done("hold", 0, 2, 1, 3);
        x.done("lay", 1, 0, x.done("row", INTS, 0));
        x.done("lay", 1, 11, x.done("row", INTS, 1));
        for (int n = 0; n < 12; n++) {
            x.done("push", 2, n == 0 || n == 11 ? x.done("row", INTS, 2) : -1);
        }
        int[] keys = {999, 0, 1, 2, 3, 4, 5, 6};
        for (int k : keys) {
            x.done("key", 3, k, k == 0 || k == 999 ? x.done("row", INTS, 3) : 0);
        }
        x.due(6, "find", 0, 0, 0);
        int[] rows = new int[6];
        for (int i = 0; i < 6; i++) {
            rows[i] = x.done("row", INTS, 4 + i);
            x.due(1, "set", i, rows[i]).due(rows[i], "at", i, 0).due(4 + i, "at", i, 2);
        }
        x.due(rows[0], "spot", 1, 0).due(rows[1], "spot", 1, 11).due(NONE, "spot", 1, 1).due(NONE, "spot", 1, 10);
        x.due(rows[2], "entry", 2, 0).due(rows[3], "entry", 2, 11).due(NONE, "entry", 2, 1).due(NONE, "entry", 2, 10);
        x.due(rows[4], "keyed", 3, 0).due(rows[5], "keyed", 3, 999).due(0, "keyed", 3, 1).due(0, "keyed", 3, 6);
        x.due(8, "about", 3).due(12, "about", 2).due(12, "length", 1).due(6, "count", 1);
        x.due(6, "find", 0, 0, 0);
        for (int i = 0; i < 6; i++) {
            x.due(rows[i], "at", i, 0);
        }
    }

    private static void setLeavesTheRest() {
        says("(its PATH, FROZEN, how often it was AGAIN stay): 1");
        Run x = new Run();
        x.done("part", DEEP);
        x.done("row", DOUBLES, 1);
        x.done("row", FLOATS, 0);
        x.done("hold", 0, 1, 0, 1);
        x.done("hold", 0, 2, 0, 1);
        x.done("hold", 0, 3, 0, 1);
        x.done("mark", 1, 0, 1);
        x.due(1, "find", 0, 0, 0).due(1, "keep").due(1, "set", 0, 2);
        x.due(2, "at", 0, 0).due(FLOATS, "at", 0, 1).due(0, "at", 0, 2).due(1, "at", 0, 3).due(1, "at", 0, 4).due(2, "at", 0, 5);
        x.due(0, "step", 0, 0, 0).due(10, "step", 0, 0, 1).due(0, "under", 0, 1, 1).due(1, "under", 0, 1, 2);
        x.due(2, "held", 0, 1, 0).due(1, "held", 0, 2, 0).due(1, "held", 0, 3, 0);
        x.due(STATE, "each", 0, 0, 1).due(0, "sum", 0, 5).due(1, "count", 1).due(1, "count", 2).due(1, "count", 3);
        x.due(1, "meter", 0).due(3, "meter", 1).due(2, "meter", 2).due(0, "fails", 0);
    }

    private static void setTheSame() {
        says("which is PARAMETER i from now on");
        Run x = oneRow(LONGS, 2);
        x.due(1, "set", 0, 1).due(1, "at", 0, 0).due(1, "held", 0, 1, 0).due(1, "count", 1);
        x.done("row", BYTES, 3);
        x.due(1, "set", 0, 2).due(3, "each", 0, AND, 5).due(5, "get", 2, 0, BYTES).due(0, "get", 1, 0, LONGS);
        x.due(1, "set", 0, 1).due(2, "each", 0, AND, 7).due(7, "get", 1, 0, LONGS).due(5, "get", 2, 0, BYTES);
        x.due(14, "sum", 0, 3);
    }

    private static void setTwiceTheSameRow() {
        says("which is PARAMETER i from now on");
        Run x = new Run();
        x.done("part", DEEP);
        x.done("row", DOUBLES, 2);
        x.done("row", DOUBLES, 5);
        x.done("hold", 0, 1, 0, 1);
        x.done("hold", 0, 3, 0, 2);
        x.due(2, "find", 0, 0, 0).due(1, "set", 0, 2).due(2, "at", 0, 0).due(2, "at", 1, 0);
        x.due(2, "count", 1).due(2, "under", 0, 0, 0).due(10, "under", 0, 0, 1).due(1, "under", 0, 1, 0);
        x.due(5, "under", 1, 1, 1).due(5, "each", 0, AND, 4).due(20, "sum", 1, 5).due(1, "keep");
        x.due(1, "find", 0, 0, 0).due(1, "at", 0, 5).due(1, "meter", 2);
    }

    // ---- each

    private static void becomes(int lane, long item, int act, long v, long want) {
        Run x = oneRow(lane, 2);
        x.due(1, "put", 1, 1, lane, item).due(2, "each", 0, act, v).due(want, "get", 1, 1, lane).due(0, "fails", 0);
    }

    private static void eachWraps() {
        says("0 its own and v, 1 its own times v, 2 v less its own",
            "(as longs, wrapping;");
        becomes(BYTES, 127, AND, 1, -128);
        becomes(BYTES, -128, AND, -1, 127);
        becomes(BYTES, 127, AND, 256, 127);
        becomes(BYTES, -128, LESS, 0, -128);
        becomes(BYTES, 16, TIMES, 16, 0);
        becomes(BYTES, -1, TIMES, -128, -128);
        becomes(SHORTS, 32767, AND, 1, -32768);
        becomes(SHORTS, -32768, LESS, -1, 32767);
        becomes(SHORTS, 256, TIMES, 256, 0);
        becomes(INTS, MAX, AND, 1, MIN);
        becomes(INTS, MIN, LESS, 0, MIN);
        becomes(INTS, MAX, TIMES, 2, -2);
        becomes(LONGS, Long.MAX_VALUE, AND, 1, Long.MIN_VALUE);
        becomes(LONGS, Long.MIN_VALUE, AND, -1, Long.MAX_VALUE);
        becomes(LONGS, Long.MIN_VALUE, TIMES, -1, Long.MIN_VALUE);
        becomes(LONGS, 1L << 32, TIMES, 1L << 32, 0);
        becomes(LONGS, Long.MIN_VALUE, LESS, 0, Long.MIN_VALUE);
        becomes(LONGS, 1, LESS, Long.MIN_VALUE, Long.MAX_VALUE);
        becomes(STAMPS, 65535, AND, 1, 0);
        becomes(STAMPS, 0, AND, -1, 65535);
        becomes(STAMPS, 0, LESS, 0, 0);
        becomes(STAMPS, 1, LESS, 0, 65535);
        becomes(STAMPS, 65535, TIMES, 65535, 1);
        becomes(BYTES, 1, AND, Long.MAX_VALUE, 0);
        becomes(INTS, -1, AND, Long.MIN_VALUE, -1);
    }

    private static void eachNearest() {
        says("of floats and doubles then the nearest one");
        becomes(DOUBLES, 5, AND, 2, 7);
        becomes(DOUBLES, 6, TIMES, 3, 18);
        becomes(FLOATS, 6, LESS, 1, -5);
        becomes(FLOATS, 1L << 24, AND, 1, 1L << 24);
        becomes(FLOATS, 1L << 24, AND, 3, (1L << 24) + 4);
        becomes(DOUBLES, 1L << 24, AND, 1, (1L << 24) + 1);
        becomes(FLOATS, LIMIT, AND, -128, LIMIT);
        becomes(FLOATS, LIMIT, AND, -129, LIMIT - 256);
    }

    private static void eachLimits() {
        says("the nearest one within -4000000000 .. 4000000000): how many");
        int[] lanes = {FLOATS, DOUBLES};
        for (int lane : lanes) {
            becomes(lane, LIMIT, AND, 0, LIMIT);
            becomes(lane, LIMIT, AND, 1, LIMIT);
            becomes(lane, LIMIT, AND, LIMIT, LIMIT);
            becomes(lane, -LIMIT, AND, -1, -LIMIT);
            becomes(lane, -LIMIT, LESS, 0, LIMIT);
            becomes(lane, -LIMIT, LESS, 1, LIMIT);
            becomes(lane, LIMIT, TIMES, -1, -LIMIT);
            becomes(lane, LIMIT, TIMES, -2, -LIMIT);
            becomes(lane, LIMIT, LESS, Long.MIN_VALUE, LIMIT);
            becomes(lane, 4, TIMES, 1L << 62, 0);
            becomes(lane, 2, TIMES, 1L << 62, -LIMIT);
            becomes(lane, 1, TIMES, 1L << 62, LIMIT);
            becomes(lane, 1, AND, Long.MAX_VALUE, -LIMIT);
            becomes(lane, 0, AND, Long.MAX_VALUE, LIMIT);
            becomes(lane, -1, AND, Long.MIN_VALUE, LIMIT);
        }
        becomes(DOUBLES, LIMIT, AND, -1, LIMIT - 1);
        becomes(DOUBLES, -LIMIT, AND, 1, 1 - LIMIT);
        Run x = oneRow(DOUBLES, 2);
        x.done("put", 1, 0, LONGS, Long.MAX_VALUE);
        x.done("put", 1, 1, LONGS, Long.MIN_VALUE);
        x.due(2, "each", 0, TIMES, 1).due(LIMIT, "get", 1, 0, DOUBLES).due(-LIMIT, "get", 1, 1, DOUBLES);
        Run y = oneRow(FLOATS, 2);
        y.done("put", 1, 0, LONGS, Long.MAX_VALUE);
        y.done("put", 1, 1, LONGS, 1L << 30);
        y.due(2, "each", 0, AND, 1).due(-LIMIT, "get", 1, 0, FLOATS).due(LIMIT, "get", 1, 1, FLOATS);
    }

    private static void eachLesser() {
        says("3 the lesser of its own and v");
        int[] lanes = {BYTES, SHORTS, INTS, LONGS, FLOATS, DOUBLES, STAMPS};
        for (int lane : lanes) {
            becomes(lane, 5, LESSER, 6, 5);
            becomes(lane, 5, LESSER, 5, 5);
            becomes(lane, 5, LESSER, 4, 4);
            becomes(lane, 5, LESSER, Long.MAX_VALUE, 5);
        }
        becomes(BYTES, -128, LESSER, 127, -128);
        becomes(BYTES, -128, LESSER, -129, 127);
        becomes(BYTES, 127, LESSER, 128, 127);
        becomes(LONGS, Long.MAX_VALUE, LESSER, Long.MIN_VALUE, Long.MIN_VALUE);
        becomes(INTS, MIN, LESSER, MIN - 1L, MAX);
        becomes(STAMPS, 0, LESSER, -1, 65535);
        becomes(DOUBLES, -LIMIT, LESSER, Long.MIN_VALUE, -LIMIT);
        becomes(DOUBLES, 0, LESSER, -LIMIT - 1, -LIMIT);
        becomes(FLOATS, LIMIT, LESSER, LIMIT - 1, LIMIT);
        becomes(DOUBLES, LIMIT, LESSER, LIMIT - 1, LIMIT - 1);
    }

    private static void eachHowMany() {
        says("Each ITEM of PARAMETER i becomes what a WORD makes in its LANE");
        int[] lanes = {BYTES, SHORTS, INTS, LONGS, FLOATS, DOUBLES, STAMPS};
        for (int lane : lanes) {
            oneRow(lane, 0).due(0, "each", 0, AND, 1).due(0, "fails", 0);
            Run x = oneRow(lane, 24);
            x.due(24, "each", 0, AND, 3);
            for (int i = 0; i < 24; i++) {
                x.due(3, "get", 1, i, lane).due(1, "put", 1, i, lane, i);
            }
            x.due(24, "each", 0, TIMES, 2);
            for (int i = 0; i < 24; i++) {
                x.due(2 * i, "get", 1, i, lane);
            }
            x.due(1, "count", 1);
        }
    }

    private static void eachRefusals() {
        says("BAD (i, act); STATE: it is FROZEN; KIND: ticks.");
        Run x = oneRow(LONGS, 2);
        for (int i : outside(0, 0)) {
            x.due(BAD, "each", i, AND, 1);
        }
        for (int act : outside(0, 3)) {
            x.due(BAD, "each", 0, act, 1);
        }
        x.due(0, "fails", 0).due(0, "get", 1, 0, LONGS).due(2, "each", 0, LESSER, -1).due(2, "each", 0, AND, 1);
        says("STATE: it is FROZEN");
        for (int marks = 0; marks < 8; marks++) {
            if ((marks & 2) == 0) {
                x.done("mark", 1, 0, marks);
                x.due(1, "find", 0, 0, 0);
                x.due((marks & 1) == 1 ? STATE : 2, "each", 0, AND, 1);
            }
        }
        x.due(2, "get", 1, 0, LONGS).due(2, "get", 1, 1, LONGS).due(0, "fails", 0);
        x.due(1, "put", 1, 0, LONGS, 9).due(11, "sum", 0, 3);
    }

    private static void eachTicks() {
        says("KIND: ticks");
        Run x = oneRow(TICKS, 3);
        x.done("put", 1, 1, TICKS, 1);
        for (int act = 0; act < 4; act++) {
            x.due(KIND, "each", 0, act, 1).due(act + 1, "fails", 4).due(act + 1, "fails", 0);
        }
        x.due(0, "get", 1, 0, TICKS).due(1, "get", 1, 1, TICKS);
        oneRow(TICKS, 0).due(KIND, "each", 0, AND, 1).due(1, "fails", 4);
    }

    // ---- sum

    private static Run items(int lane, int as, long... words) {
        Run x = oneRow(lane, words.length);
        for (int i = 0; i < words.length; i++) {
            x.due(1, "put", 1, i, as, words[i]);
        }
        return x;
    }

    private static void sumsWrap() {
        says("the WORD of it (longs wrapping)");
        items(LONGS, LONGS, Long.MAX_VALUE).due(Long.MAX_VALUE, "sum", 0, 3);
        items(LONGS, LONGS, Long.MAX_VALUE, 1).due(Long.MIN_VALUE, "sum", 0, 3);
        items(LONGS, LONGS, Long.MIN_VALUE, -1).due(Long.MAX_VALUE, "sum", 0, 3);
        items(LONGS, LONGS, Long.MIN_VALUE, Long.MIN_VALUE).due(0, "sum", 0, 3);
        items(INTS, INTS, MAX, MAX, MAX).due(3L * MAX, "sum", 0, 3).due(12L * MAX, "sum", 0, 5);
        items(INTS, INTS, MIN, -1).due(MIN - 1L, "sum", 0, 3);
        items(BYTES, BYTES, 127, 127).due(254, "sum", 0, 3).due(1016, "sum", 0, 5);
        items(SHORTS, SHORTS, -32768, -32768).due(-65536, "sum", 0, 3).due(-262144, "sum", 0, 5);
        items(STAMPS, STAMPS, 65535, 65535).due(131070, "sum", 0, 3).due(524280, "sum", 0, 5);
        Run x = oneRow(STAMPS, 24);
        x.due(24, "each", 0, LESS, 65535).due(24L * 65535, "sum", 0, 3).due(96L * 65535, "sum", 0, 5);
    }

    private static void sumsOfDoubles() {
        says("each read AS longs (as = 3) or doubles (5)");
        items(DOUBLES, DOUBLES, LIMIT, LIMIT, LIMIT).due(3 * LIMIT, "sum", 0, 5);
        items(DOUBLES, DOUBLES, 1, -3, 9).due(7, "sum", 0, 5);
        items(FLOATS, FLOATS, -LIMIT, -LIMIT).due(-2 * LIMIT, "sum", 0, 5);
        // the sum is one of doubles: floats would lose the 1
        items(FLOATS, FLOATS, 1L << 24, 1).due((1L << 24) + 1, "sum", 0, 5);
        items(LONGS, LONGS, Long.MAX_VALUE, Long.MAX_VALUE).due(Long.MAX_VALUE, "sum", 0, 5).due(-2, "sum", 0, 3);
        items(LONGS, LONGS, Long.MIN_VALUE, -1).due(Long.MIN_VALUE, "sum", 0, 5);
        items(DOUBLES, LONGS, Long.MAX_VALUE, Long.MIN_VALUE).due(0, "sum", 0, 5);
        items(DOUBLES, LONGS, Long.MAX_VALUE, Long.MAX_VALUE, Long.MIN_VALUE, Long.MIN_VALUE).due(0, "sum", 0, 5);
        items(LONGS, LONGS, (1L << 53) + 1).due(1L << 55, "sum", 0, 5).due((1L << 53) + 1, "sum", 0, 3);
    }

    private static void sumOrder() {
        says("added in order from 0 on");
        long big = 1L << 53;
        items(LONGS, LONGS, big, 1, 1).due(4 * big, "sum", 0, 5).due(big + 2, "sum", 0, 3);
        items(LONGS, LONGS, 1, 1, big).due(4 * (big + 2), "sum", 0, 5);
        items(LONGS, LONGS, 1, big, 1).due(4 * big, "sum", 0, 5);
        items(LONGS, LONGS, big, 1, -big).due(0, "sum", 0, 5).due(1, "sum", 0, 3);
        items(LONGS, LONGS, big, -big, 1).due(4, "sum", 0, 5);
    }

    private static void sumsOfEmpty() {
        says("KIND: an ITEM does not WIDEN to that");
        for (int lane = 0; lane < 8; lane++) {
            oneRow(lane, 0).due(0, "sum", 0, 3).due(0, "sum", 0, 5).due(0, "fails", 0);
        }
    }

    private static void sumRefusals() {
        says("BAD (i, as), as longs");
        Run x = oneRow(LONGS, 1);
        for (int i : outside(0, 0)) {
            x.due(BAD, "sum", i, 3).due(BAD, "sum", i, 5);
        }
        int[] others = {0, 1, 2, 4, 6, 7};
        for (int as : others) {
            x.due(BAD, "sum", 0, as);
        }
        for (int as : outside(0, 7)) {
            x.due(BAD, "sum", 0, as);
        }
        x.due(0, "fails", 0);
        long[] words = {BAD, KIND, UNKNOWN};
        for (long word : words) {
            x.due(1, "put", 1, 0, LONGS, word).due(word, "sum", 0, 3).due(4 * word, "sum", 0, 5);
        }
        x.due(0, "fails", 0);
    }

    private static void sumKinds() {
        says("KIND: an ITEM does not WIDEN to that.");
        boolean[] toLongs = {true, true, true, true, false, false, false, true};
        boolean[] toDoubles = {true, true, true, true, true, true, false, true};
        for (int lane = 0; lane < 8; lane++) {
            Run x = oneRow(lane, 1);
            x.due(toLongs[lane] ? 0 : KIND, "sum", 0, 3).due(toDoubles[lane] ? 0 : KIND, "sum", 0, 5);
            int kinds = (toLongs[lane] ? 0 : 1) + (toDoubles[lane] ? 0 : 1);
            x.due(kinds, "fails", 4).due(kinds, "fails", 0);
        }
        says("The ITEMS of PARAMETER i, each read AS longs (as = 3) or doubles (5)");
        Run x = oneRow(LONGS, 1);
        x.done("put", 1, 0, LONGS, 5);
        x.done("mark", 1, 0, 5);
        x.due(1, "find", 0, 0, 0).due(5, "sum", 0, 3).due(20, "sum", 0, 5);
    }

    // ---- keep, back

    private static void keepNone() {
        says("ITEMS of all PARAMETERS are KEPT (instead of those before): how many ROWS, each once.");
        Run x = new Run();
        x.due(0, "keep").due(0, "count", 3).due(0, "back");
        x.done("part", LAYER);
        x.due(0, "find", 0, 0, 0).due(0, "keep").due(0, "back").due(0, "count", 3);
        Run y = oneRow(LONGS, 0);
        y.due(0, "back").due(1, "keep").due(1, "count", 3).due(1, "back").due(0, "length", 1);
    }

    private static void keepForty() {
        says("ITEMS of all PARAMETERS are KEPT");
        Run x = new Run();
        x.done("part", LAYER);
        x.done("list");
        x.done("hold", 0, 1, 0, 1);
        for (int l = 0; l < 4; l++) {
            int list = x.done("list");
            x.done("push", 1, list);
            for (int n = 0; n < 10; n++) {
                x.done("push", list, x.done("row", (n + l) % 8, 2));
            }
        }
        x.due(40, "find", 0, 0, 0).due(40, "keep").due(40, "count", 3);
        for (int i = 0; i < 40; i++) {
            int t = (int) x.answer("at", i, 0);
            int lane = (int) x.answer("at", i, 1);
            x.due(1, "put", t, 1, lane, 1).due(1, "get", t, 1, lane);
        }
        x.due(40, "back");
        for (int i = 0; i < 40; i++) {
            int t = i + 3 + i / 10;
            x.due(0, "get", t, 1, (i % 10 + i / 10) % 8);
        }
        x.due(40, "count", 3).due(40, "count", 1);
    }

    private static void keepInstead() {
        says("(instead of those before)");
        Run x = new Run();
        x.done("part", DEEP);
        x.done("row", LONGS, 1);
        x.done("row", DOUBLES, 1);
        x.done("hold", 0, 1, 0, 1);
        x.done("hold", 0, 2, 0, 2);
        x.due(2, "find", 0, 0, 0).due(2, "keep").due(1, "find", 0, 3, 3);
        x.done("put", 1, 0, 3, 4);
        x.done("put", 2, 0, 5, 4);
        x.due(1, "keep").due(1, "count", 3);
        x.done("put", 1, 0, 3, 5);
        x.done("put", 2, 0, 5, 5);
        x.due(1, "back").due(4, "get", 1, 0, 3).due(5, "get", 2, 0, 5);
        x.due(0, "find", 0, 3, 0).due(1, "back").due(0, "keep").due(0, "count", 3);
        x.done("put", 1, 0, 3, 6);
        x.due(0, "back").due(6, "get", 1, 0, 3);
        x.due(2, "find", 0, 0, 0).due(2, "keep");
        x.done("put", 1, 0, 3, 7);
        x.due(2, "keep");
        x.done("put", 1, 0, 3, 8);
        x.due(2, "back").due(7, "get", 1, 0, 3).due(5, "get", 2, 0, 5);
    }

    private static void keepEachOnce() {
        says("how many ROWS, each once");
        Run x = new Run();
        x.done("part", DEEP);
        x.done("row", DOUBLES, 1);
        x.done("row", DOUBLES, 1);
        x.done("row", DOUBLES, 1);
        for (int cls = 1; cls < 4; cls++) {
            x.done("hold", 0, cls, 0, cls);
        }
        x.due(3, "find", 0, 0, 0).due(3, "keep").due(1, "set", 2, 1).due(2, "keep").due(2, "count", 3);
        x.due(1, "set", 1, 1).due(1, "keep").due(1, "count", 3).due(3, "count", 1);
        x.due(1, "each", 2, AND, 9).due(9, "sum", 0, 5).due(1, "back").due(0, "sum", 0, 5);
        x.due(1, "find", 0, 0, 0).due(2, "at", 0, 5).due(1, "keep");
    }

    private static void backAgain() {
        says("The ROWS that were KEPT have the ITEMS that they had then: how many ROWS.");
        long[] kept = {-128, -32768, MIN, Long.MIN_VALUE, LIMIT, LIMIT - 1, 1, 65535};
        for (int lane = 0; lane < 8; lane++) {
            Run x = oneRow(lane, 24);
            x.done("put", 1, 0, lane, kept[lane]);
            x.done("put", 1, 23, lane, kept[lane]);
            x.due(1, "keep");
            for (int n = 0; n < 2; n++) {
                x.done("put", 1, 0, lane, 0);
                x.done("put", 1, 11, lane, 1);
                x.done("put", 1, 23, lane, 0);
                x.due(1, "back").due(kept[lane], "get", 1, 0, lane).due(0, "get", 1, 11, lane).due(kept[lane], "get", 1, 23, lane);
                x.due(1, "back").due(1, "count", 3).due(1, "count", 1);
            }
        }
        // ITEMS that no WORD of their LANE tells come back, too, and are copied
        int[] reals = {FLOATS, DOUBLES};
        for (int lane : reals) {
            Run y = items(lane, LONGS, 1L << 62, -(1L << 61) - (1L << 60));
            y.due(1L << 62, "sum", 0, 5).due(1, "keep").due(2, "each", 0, TIMES, 0).due(0, "sum", 0, 5);
            y.due(1, "back").due(1L << 62, "sum", 0, 5).due(2, "copy", 1).due(1, "set", 0, 2).due(1L << 62, "sum", 0, 5);
        }
    }

    /** What is KEPT stays so, whatever becomes of PARAMETERS, FIELDS and MARKS. */
    private static void backAfterwards() {
        says("The ROWS that were KEPT have the ITEMS that they had then");
        Run x = oneRow(LONGS, 1);
        x.done("put", 1, 0, LONGS, 3);
        x.due(1, "keep").due(1, "each", 0, AND, 5).due(8, "sum", 0, 3);
        x.done("hold", 0, 1, 0, -1);
        x.due(0, "count", 1).due(1, "count", 3).due(1, "back").due(3, "get", 1, 0, LONGS);
        x.done("hold", 0, 1, 0, 1);
        x.done("mark", 1, 0, 5);
        x.due(1, "find", 0, 0, 0).due(1, "put", 1, 0, LONGS, 4).due(1, "back").due(3, "get", 1, 0, LONGS);
        x.done("row", LONGS, 1);
        x.done("mark", 1, 0, 0);
        x.due(1, "find", 0, 0, 0).due(1, "set", 0, 2).due(1, "put", 1, 0, LONGS, 4).due(1, "put", 2, 0, LONGS, 4);
        x.due(1, "back").due(3, "get", 1, 0, LONGS).due(4, "get", 2, 0, LONGS).due(1, "count", 3).due(2, "at", 0, 0);
    }
}
