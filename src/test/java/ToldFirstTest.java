/** "Of several what is told first at the call.": calls that are wrong in more than one way. */
public final class ToldFirstTest extends Due {
    private static final int PARTS = 8, DOUBLES = 11, LIST = 12, FULL_LIST = 13, MAP = 14, FULL_MAP = 15;
    private static final long TOO_MUCH = 4000000001L;

    public static void main(String[] args) {
        making();
        copying();
        getting();
        putting();
        viewing();
        holding();
        laying();
        pushing();
        keying();
        asking();
        finding();
        parameters();
        setting();
        changing();
        summing();
        end();
    }

    /** 0 .. 6 PARTS of class 1 .. 7, the VAULT SHUT, 7 ROW of bytes, 8 ARRAY of LAYERS, 9 ROW of ticks, 10 PLAIN, 11 .. 15 as told above. */
    private static Run things() {
        Run x = new Run();
        for (int cls = 1; cls < 8; cls++) {
            x.done("part", cls);
        }
        x.done("lock", 6, true);
        x.done("row", 0, 2);
        x.done("array", 1, 2);
        x.done("row", 6, 2);
        x.done("plain", 0);
        x.done("array", 5, 2);
        x.done("list");
        x.done("list");
        x.done("map");
        x.done("map");
        for (int n = 0; n < 12; n++) {
            x.done("push", FULL_LIST, -1);
        }
        for (int k = 0; k < 8; k++) {
            x.done("key", FULL_MAP, k, 0);
        }
        return x;
    }

    private static void order(String sentence) {
        says("Of several what is told first at the call.", sentence);
    }

    private static void making() {
        order("BAD (lane, n above 24), FULL; SIZE: n below 0.");
        Run x = new Run();
        x.due(BAD, "row", 8, -1).due(BAD, "row", -1, MIN).due(BAD, "row", 8, 25).due(BAD, "array", 8, -1).due(BAD, "array", -1, 13);
        for (int t = 0; t < 80; t++) {
            x.done("plain", t);
        }
        x.due(BAD, "row", 8, 0).due(BAD, "row", 0, 25).due(BAD, "row", -1, -1).due(FULL, "row", 0, -1).due(FULL, "row", 0, MIN);
        x.due(BAD, "array", 8, 0).due(BAD, "array", 0, 13).due(BAD, "array", -1, -1).due(FULL, "array", 0, -1);
        x.due(FULL, "array", 7, MIN).due(BAD, "part", 0).due(BAD, "part", 8).due(FULL, "part", 1).due(0, "fails", 0);
    }

    private static void copying() {
        order("UNKNOWN, FULL; KIND: it is no ROW.");
        Run x = new Run();
        for (int t = 0; t < 80; t++) {
            x.done("plain", t);
        }
        x.due(UNKNOWN, "copy", 80).due(UNKNOWN, "copy", -1).due(FULL, "copy", 0).due(FULL, "copy", 79).due(0, "fails", 0);
    }

    private static void getting() {
        order("UNKNOWN, BAD (as), as longs; KIND: no ROW; OUT; KIND: its LANE does not WIDEN to that.");
        Run x = things();
        x.due(UNKNOWN, "get", 16, 0, 8).due(UNKNOWN, "get", -1, -1, -1).due(UNKNOWN, "get", 16, 99, 0);
        x.due(BAD, "get", 0, 0, 8).due(BAD, "get", 0, -1, -1).due(BAD, "get", 7, 2, 8).due(BAD, "get", 7, -1, 8);
        x.due(0, "fails", 0);
        x.due(KIND, "get", 0, -1, 0).due(KIND, "get", PARTS, 2, 0).due(KIND, "get", LIST, 0, 6).due(3, "fails", 4);
        x.due(OUT, "get", 7, 2, 6).due(OUT, "get", 7, -1, 7).due(OUT, "get", 9, 2, 0).due(3, "fails", 3);
        x.due(KIND, "get", 7, 1, 6).due(KIND, "get", 9, 0, 0).due(5, "fails", 4).due(8, "fails", 0);
    }

    private static void putting() {
        order("UNKNOWN, BAD (as, v); KIND: no ROW; OUT; KIND: that LANE does not WIDEN to the ROW's.");
        Run x = things();
        x.due(UNKNOWN, "put", 16, 0, 8, 0).due(UNKNOWN, "put", -1, 0, 5, TOO_MUCH).due(UNKNOWN, "put", 16, 99, 0, 0);
        x.due(BAD, "put", 0, 0, 8, 0).due(BAD, "put", 0, 0, 5, TOO_MUCH).due(BAD, "put", 7, 2, 8, 0);
        x.due(BAD, "put", 7, 2, 4, -TOO_MUCH).due(BAD, "put", 7, 0, 5, TOO_MUCH).due(BAD, "put", 9, 0, 4, TOO_MUCH);
        x.due(BAD, "put", 7, -1, -1, TOO_MUCH).due(0, "fails", 0);
        x.due(KIND, "put", 0, -1, 0, 0).due(KIND, "put", PARTS, 2, 0, 0).due(2, "fails", 4);
        x.due(OUT, "put", 7, 2, 6, 0).due(OUT, "put", 7, -1, 5, 0).due(OUT, "put", 9, 2, 0, 0).due(3, "fails", 3);
        x.due(KIND, "put", 7, 1, 6, 0).due(KIND, "put", 9, 1, 0, 0).due(4, "fails", 4).due(7, "fails", 0);
    }

    private static void viewing() {
        order("A THING taken as a VIEW: its KIND. UNKNOWN, BAD.");
        Run x = things();
        x.due(UNKNOWN, "is", 16, 29).due(UNKNOWN, "is", -1, -1).due(UNKNOWN, "take", 16, 29).due(UNKNOWN, "take", -1, -1);
        x.due(UNKNOWN, "take", 16, 0).due(BAD, "take", 0, 29).due(BAD, "take", 0, -1);
    }

    private static void holding() {
        order("UNKNOWN (p, t), BAD (cls, f: no such FIELD). CAST: p is no PART of that class; CAST: the FIELD does not take t.");
        Run x = things();
        x.due(UNKNOWN, "hold", 16, 8, 0, 0).due(UNKNOWN, "hold", -1, 0, 1, -1).due(UNKNOWN, "hold", 0, 8, 0, 16);
        x.due(UNKNOWN, "hold", 0, 0, 1, -2).due(UNKNOWN, "hold", 7, 0, 0, 16).due(UNKNOWN, "hold", 0, 2, 0, -2);
        x.due(UNKNOWN, "hold", 4, 5, 0, 16).due(BAD, "hold", 7, 8, 0, 0).due(BAD, "hold", 7, 0, 1, 0).due(BAD, "hold", 0, 2, 2, 0);
        x.due(BAD, "hold", 0, 7, 1, 0).due(0, "fails", 0).due(CAST, "hold", 0, 2, 0, 7).due(1, "fails", 2).due(1, "fails", 0);
        order("The THING that a FIELD holds; NONE. UNKNOWN, BAD; CAST: p is no PART of that class.");
        x.due(UNKNOWN, "held", 16, 8, 0).due(UNKNOWN, "held", -1, 0, 1).due(BAD, "held", 7, 8, 0).due(BAD, "held", 7, 0, 1);
        x.due(BAD, "held", 0, 2, 2).due(1, "fails", 0);
    }

    private static void laying() {
        order("UNKNOWN (a, t). Cast: a is no ARRAY; t is no PART (of SORTS 0 .. 4), no ROW of the LANE (5, 6, 7). Index: no such SPOT.");
        Run x = things();
        x.due(UNKNOWN, "lay", 16, 2, 0).due(UNKNOWN, "lay", -1, 0, -2).due(UNKNOWN, "lay", 0, 0, 16).due(UNKNOWN, "lay", 0, 0, -2);
        x.due(UNKNOWN, "lay", PARTS, 2, 16).due(UNKNOWN, "lay", PARTS, -1, -2).due(UNKNOWN, "lay", DOUBLES, 2, -2);
        x.thrown(CAST_THROWN, "lay", 0, 0, 7).thrown(CAST_THROWN, "lay", 0, -1, -1).thrown(CAST_THROWN, "lay", LIST, 99, 0);
        x.thrown(CAST_THROWN, "lay", PARTS, 2, 7).thrown(CAST_THROWN, "lay", PARTS, -1, 10).thrown(CAST_THROWN, "lay", DOUBLES, 2, 7);
        x.thrown(CAST_THROWN, "lay", DOUBLES, -1, 0);
        x.thrown(INDEX_THROWN, "lay", PARTS, 2, 6).thrown(INDEX_THROWN, "lay", PARTS, -1, 4).thrown(STORE_THROWN, "lay", PARTS, 1, 4);
        order("UNKNOWN. Cast: a is no ARRAY. Index.");
        x.due(UNKNOWN, "spot", 16, 2).due(UNKNOWN, "spot", -1, -1).thrown(CAST_THROWN, "spot", 0, -1);
        x.thrown(CAST_THROWN, "spot", FULL_LIST, 12).due(0, "fails", 0);
    }

    private static void pushing() {
        order("UNKNOWN (l, t); CAST: no LIST; FULL.");
        Run x = things();
        x.due(UNKNOWN, "push", 16, 0).due(UNKNOWN, "push", -1, -2).due(UNKNOWN, "push", 0, 16).due(UNKNOWN, "push", 0, -2);
        x.due(UNKNOWN, "push", FULL_LIST, 16).due(UNKNOWN, "push", FULL_LIST, -2).due(FULL, "push", FULL_LIST, -1);
        x.due(0, "fails", 0).due(CAST, "push", FULL_MAP, 0).due(1, "fails", 2);
        order("UNKNOWN; CAST: no LIST; OUT.");
        x.due(UNKNOWN, "entry", 16, -1).due(CAST, "entry", 0, -1).due(CAST, "entry", FULL_MAP, 12).due(3, "fails", 2).due(0, "fails", 3);
    }

    private static void keying() {
        order("UNKNOWN (m, t), BAD (k); CAST: no MAP; FULL: a ninth KEY.");
        Run x = things();
        x.due(UNKNOWN, "key", 16, -1, 0).due(UNKNOWN, "key", -1, 1000, -2).due(UNKNOWN, "key", MAP, 1000, 16);
        x.due(UNKNOWN, "key", 0, 0, 16).due(UNKNOWN, "key", 0, -1, -2).due(UNKNOWN, "key", FULL_MAP, 8, 16);
        x.due(BAD, "key", 0, -1, 0).due(BAD, "key", 0, 1000, -1).due(BAD, "key", FULL_MAP, 1000, 0).due(BAD, "key", FULL_MAP, -1, 0);
        x.due(FULL, "key", FULL_MAP, 999, 0).due(0, "fails", 0).due(CAST, "key", FULL_LIST, 8, 0).due(1, "fails", 2);
        order("UNKNOWN; CAST: no MAP.");
        x.due(UNKNOWN, "keyed", 16, -1).due(CAST, "keyed", 0, 1000).due(2, "fails", 2);
    }

    private static void asking() {
        order("UNKNOWN, BAD; CAST: no PART; of 2: neither LAYER nor BLOCK; then what SIZE finds.");
        Run x = things();
        x.due(UNKNOWN, "ask", 16, 3).due(UNKNOWN, "ask", -1, -1).due(BAD, "ask", 7, 3).due(BAD, "ask", 7, -1).due(BAD, "ask", 6, 3);
        x.due(0, "fails", 0).due(CAST, "ask", 7, 2).due(CAST, "ask", 6, 2).due(2, "fails", 2).due(0, "fails", 6).due(2, "fails", 0);
    }

    private static void finding() {
        order("UNKNOWN, BAD (rule); CAST: no PART; FULL.");
        Run x = new Run();
        x.done("part", 1);
        x.done("list");
        x.done("hold", 0, 1, 0, 1);
        for (int l = 0; l < 4; l++) {
            int list = x.done("list");
            x.done("push", 1, list);
            for (int n = 0; n < 11; n++) {
                x.done("push", list, x.done("row", 0, 0));
            }
        }
        x.due(UNKNOWN, "find", -1, 5, 0).due(UNKNOWN, "find", 80, -1, 0).due(BAD, "find", 1, 5, 0).due(BAD, "find", 0, -1, 0);
        x.due(BAD, "find", 0, 5, 0).due(0, "fails", 0).due(0, "count", 2).due(FULL, "find", 0, 0, 0).due(1, "count", 2);
    }

    private static void parameters() {
        order("BAD: no PARAMETER i, n is not 0 .. its STEPS, another what.");
        Run x = things();
        x.due(BAD, "at", 0, 6).due(BAD, "step", 0, 1, 2).due(BAD, "under", 0, 1, 3).due(BAD, "set", 0, 16).due(BAD, "set", 0, 0);
        x.due(BAD, "each", 0, 4, 0).due(BAD, "sum", 0, 4).due(0, "fails", 0);
    }

    private static void setting() {
        order("BAD: no such; UNKNOWN (t); KIND: t is no ROW; STATE: a FIELD that is FINAL; CAST: the FIELD, the ARRAY does not take it.");
        Run x = things();
        int row = x.done("row", 5, 1);
        x.done("hold", 1, 2, 0, row);
        x.done("hold", 1, 2, 1, DOUBLES);
        x.done("lay", DOUBLES, 0, x.done("row", 5, 1));
        x.done("mark", 2, 0, 4);
        x.due(2, "find", 1, 0, 0);
        x.due(BAD, "set", 2, 18).due(BAD, "set", -1, 0).due(BAD, "set", 2, 7).due(UNKNOWN, "set", 0, 18).due(UNKNOWN, "set", 0, -1);
        x.due(0, "fails", 0).due(KIND, "set", 0, 0).due(KIND, "set", 0, 10).due(2, "fails", 4);
        x.due(STATE, "set", 0, 7).due(STATE, "set", 0, row).due(0, "fails", 2);
        x.due(KIND, "set", 1, 0).due(KIND, "set", 1, DOUBLES).due(4, "fails", 4).due(CAST, "set", 1, 7).due(1, "fails", 2);
    }

    private static void changing() {
        order("BAD (i, act); STATE: it is FROZEN; KIND: ticks.");
        Run x = things();
        x.done("hold", 0, 1, 0, 9);
        x.due(1, "find", 0, 0, 0).due(BAD, "each", 0, 4, 1).due(BAD, "each", 0, -1, 1).due(0, "fails", 0);
        x.done("mark", 1, 0, 1);
        x.due(1, "find", 0, 0, 0).due(BAD, "each", 0, 4, 1).due(BAD, "each", 1, 0, 1).due(STATE, "each", 0, 0, 1);
        x.due(0, "fails", 0);
    }

    private static void summing() {
        order("BAD (i, as), as longs; KIND: an ITEM does not WIDEN to that.");
        Run x = things();
        x.done("hold", 0, 1, 0, 9);
        x.due(1, "find", 0, 0, 0).due(BAD, "sum", 0, 6).due(BAD, "sum", 0, 2).due(BAD, "sum", 1, 3).due(0, "fails", 0);
        x.due(KIND, "sum", 0, 3).due(1, "fails", 4);
    }
}
