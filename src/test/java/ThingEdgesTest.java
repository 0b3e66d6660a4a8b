/** The boundary cases of THINGS: Terms 1, promises 1 to 11. */
public final class ThingEdgesTest extends Due {
    private static final Object[][] MAKINGS = {
        {"row", 3, 0}, {"array", 3, 0}, {"list"}, {"map"}, {"part", 7}, {"plain", 0}, {"copy", 0}};
    private static final int[] KINDS_MADE = {0, 1, 2, 3, 4, 5, 0};

    public static void main(String[] args) {
        noThings();
        noMarks();
        noParameters();
        noMeter();
        objectsByThemselves();
        eightyAtMost();
        theyStay();
        refusedOnesHaveNoNumber();
        kinds();
        rowLanes();
        rowItems();
        rowTooLongOrTooShort();
        arraySorts();
        arraySpots();
        arrayTooLongOrTooShort();
        lists();
        maps();
        partClasses();
        fieldsAreBare();
        vaultsAreOpen();
        plains();
        copies();
        copiesByThemselves();
        copyRefusals();
        abouts();
        lengths();
        end();
    }

    /** A call written as its name and what it is given. */
    private static void dueOf(Run x, long want, Object... call) {
        Object[] args = new Object[call.length - 1];
        System.arraycopy(call, 1, args, 0, args.length);
        x.due(want, (String) call[0], args);
    }

    private static void noThings() {
        says("No THINGS, no MARKS, no PARAMETERS; THE METER is 0 (7: NONE).");
        Object[][] calls = {
            {"copy", 0}, {"kind", 0}, {"about", 0}, {"length", 0}, {"get", 0, 0, 0}, {"put", 0, 0, 0, 0}, {"is", 0, 0},
            {"take", 0, 0}, {"hold", 0, 0, 0, -1}, {"held", 0, 0, 0}, {"lay", 0, 0, -1}, {"spot", 0, 0}, {"push", 0, -1},
            {"entry", 0, 0}, {"key", 0, 0, -1}, {"keyed", 0, 0}, {"lock", 0, true}, {"ask", 0, 0}, {"find", 0, 0, 0}};
        Run x = new Run();
        for (Object[] call : calls) {
            dueOf(x, UNKNOWN, call);
        }
        x.due(0, "count", 0).due(0, "fails", 0).due(0, "count", 2);
    }

    private static void noMarks() {
        says("no MARKS");
        Run x = new Run();
        for (int cls = 0; cls < 8; cls++) {
            for (int f = 0; f < FIELDS[cls]; f++) {
                x.due(0, "mark", cls, f, 7);
            }
        }
    }

    private static void noParameters() {
        says("no PARAMETERS");
        Run x = new Run();
        x.due(0, "count", 1);
        x.due(BAD, "at", 0, 0).due(BAD, "step", 0, 0, 0).due(BAD, "under", 0, 0, 0);
        x.due(BAD, "set", 0, 0).due(BAD, "each", 0, 0, 0).due(BAD, "sum", 0, 3);
        x.due(0, "back").due(0, "keep").due(0, "back").due(0, "count", 3);
    }

    private static void noMeter() {
        says("THE METER is 0 (7: NONE)");
        Run x = new Run();
        for (int what = 0; what < 7; what++) {
            x.due(0, "meter", what);
        }
        x.due(NONE, "meter", 7);
    }

    /** What one object is told is not in the next one. */
    private static void objectsByThemselves() {
        says("A new object");
        Run first = new Run();
        first.done("part", 7);
        first.done("row", 0, 1);
        first.done("hold", 0, 0, 0, 1);
        first.done("lock", 0, true);
        first.done("mark", 7, 0, 5);
        first.due(1, "find", 0, 0, 0).due(0, "meter", 7).due(1, "keep").due(KIND, "length", 0);
        Run second = new Run();
        second.due(0, "count", 0).due(0, "count", 1).due(0, "count", 2).due(0, "count", 3).due(0, "fails", 0);
        second.due(0, "meter", 0).due(NONE, "meter", 7).due(0, "mark", 7, 0, 0).due(0, "plain", 9);
        first.due(4, "kind", 0).due(2, "count", 0).due(5, "mark", 7, 0, 0);
    }

    /** By every call that makes THINGS the 80th is made, and by none the 81st. */
    private static void eightyAtMost() {
        says("(80 at most) are made by calls and stay.");
        for (int last = 0; last < MAKINGS.length; last++) {
            Run x = new Run();
            dueOf(x, 0, MAKINGS[0]);
            for (int t = 1; t < 79; t++) {
                dueOf(x, t, MAKINGS[(t + last) % MAKINGS.length]);
            }
            x.due(79, "count", 0).due(UNKNOWN, "kind", 79);
            dueOf(x, 79, MAKINGS[last]);
            x.due(80, "count", 0).due(KINDS_MADE[last], "kind", 79);
            for (Object[] making : MAKINGS) {
                dueOf(x, FULL, making);
            }
            x.due(80, "count", 0).due(UNKNOWN, "kind", 80).due(0, "fails", 0);
        }
    }

    private static void theyStay() {
        says("are made by calls and stay");
        Run x = new Run();
        for (int t = 0; t < 80; t++) {
            dueOf(x, t, MAKINGS[t % MAKINGS.length]);
        }
        dueOf(x, FULL, MAKINGS[5]);
        x.done("hold", 4, 0, 0, 0);
        x.done("hold", 4, 0, 0, -1);
        x.done("key", 3, 5, 79);
        x.done("key", 3, 5, -1);
        dueOf(x, FULL, MAKINGS[0]);
        for (int t = 0; t < 80; t++) {
            x.due(KINDS_MADE[t % MAKINGS.length], "kind", t);
        }
    }

    private static void refusedOnesHaveNoNumber() {
        says("What is refused, found or throws changes nothing but counts");
        Run x = new Run();
        x.due(BAD, "row", 8, 0).due(BAD, "row", 0, 25).due(SIZE, "row", 0, -1);
        x.due(BAD, "array", 8, 0).due(BAD, "array", 0, 13).due(SIZE, "array", 0, -1);
        x.due(BAD, "part", 0).due(UNKNOWN, "copy", 0).due(0, "count", 0);
        x.due(0, "plain", 1).due(KIND, "copy", 0).due(1, "count", 0).due(1, "list");
    }

    private static void kinds() {
        says("Each is of a KIND: 0 ROW, 1 ARRAY, 2 LIST, 3 MAP, 4 PART, 5 PLAIN (a number).");
        for (int lane = 0; lane < 8; lane++) {
            new Run().due(0, "row", lane, lane).due(0, "kind", 0);
            new Run().due(0, "array", lane, lane).due(1, "kind", 0);
        }
        new Run().due(0, "list").due(2, "kind", 0);
        new Run().due(0, "map").due(3, "kind", 0);
        for (int cls = 1; cls < 8; cls++) {
            new Run().due(0, "part", cls).due(4, "kind", 0);
        }
        new Run().due(0, "plain", 0).due(5, "kind", 0);
        says("Its KIND. UNKNOWN.");
        Run x = new Run();
        x.done("row", 0, 0);
        x.done("plain", 3);
        for (int t : outside(0, 1)) {
            x.due(UNKNOWN, "kind", t);
        }
        x.due(0, "kind", 0).due(5, "kind", 1).due(0, "fails", 0);
    }

    private static void rowLanes() {
        says("A ROW of n ITEMS: its number. BAD (lane");
        Run x = new Run();
        x.due(0, "row", 0, 1).due(0, "about", 0).due(1, "row", 7, 1).due(7, "about", 1);
        for (int lane : outside(0, 7)) {
            x.due(BAD, "row", lane, 0).due(BAD, "row", lane, 24).due(BAD, "row", lane, -1);
        }
        x.due(2, "count", 0).due(0, "fails", 0);
    }

    private static void rowItems() {
        says("and 0 .. 24 ITEMS, 0 at first");
        for (int lane = 0; lane < 8; lane++) {
            Run x = new Run();
            x.due(0, "row", lane, 0).due(0, "length", 0).due(OUT, "get", 0, 0, lane).due(OUT, "put", 0, 0, lane, 0);
            x.due(1, "row", lane, 1).due(1, "length", 1).due(0, "get", 1, 0, lane).due(OUT, "get", 1, 1, lane);
            x.due(2, "row", lane, 24).due(24, "length", 2);
            for (int i = 0; i < 24; i++) {
                x.due(0, "get", 2, i, lane);
            }
            x.due(OUT, "get", 2, 24, lane).due(OUT, "get", 2, -1, lane);
        }
    }

    private static void rowTooLongOrTooShort() {
        says("n above 24), FULL; SIZE: n below 0.");
        int[] tooMany = {25, 26, 256, 65536, 65560, MAX};
        int[] tooFew = {-1, -2, -256, -65536, MIN, MIN + 24};
        for (int lane = 0; lane < 8; lane++) {
            Run x = new Run();
            for (int n : tooMany) {
                x.due(BAD, "row", lane, n);
            }
            x.due(0, "fails", 0);
            for (int n : tooFew) {
                x.due(SIZE, "row", lane, n);
            }
            x.due(tooFew.length, "fails", 5).due(tooFew.length, "fails", 0).due(0, "count", 0);
        }
    }

    private static void arraySorts() {
        says("An ARRAY of n SPOTS: its number. BAD (sort");
        Run x = new Run();
        x.due(0, "array", 0, 1).due(0, "about", 0).due(1, "array", 7, 1).due(7, "about", 1);
        for (int sort : outside(0, 7)) {
            x.due(BAD, "array", sort, 0).due(BAD, "array", sort, 12).due(BAD, "array", sort, -1);
        }
        x.due(2, "count", 0).due(0, "fails", 0);
    }

    private static void arraySpots() {
        says("and 0 .. 12 SPOTS, each bare (at first) or with a THING.");
        for (int sort = 0; sort < 8; sort++) {
            Run x = new Run();
            x.due(0, "array", sort, 0).due(0, "length", 0).thrown(INDEX_THROWN, "spot", 0, 0);
            x.due(1, "array", sort, 1).due(1, "length", 1).due(NONE, "spot", 1, 0).thrown(INDEX_THROWN, "spot", 1, 1);
            x.due(2, "array", sort, 12).due(12, "length", 2);
            for (int i = 0; i < 12; i++) {
                x.due(NONE, "spot", 2, i);
            }
            x.thrown(INDEX_THROWN, "spot", 2, 12).thrown(INDEX_THROWN, "spot", 2, -1);
        }
    }

    private static void arrayTooLongOrTooShort() {
        says("n above 12), FULL; SIZE: n below 0.");
        int[] tooMany = {13, 14, 24, 256, 65548, MAX};
        int[] tooFew = {-1, -2, -256, -65536, MIN, MIN + 12};
        for (int sort = 0; sort < 8; sort++) {
            Run x = new Run();
            for (int n : tooMany) {
                x.due(BAD, "array", sort, n);
            }
            x.due(0, "fails", 0);
            for (int n : tooFew) {
                x.due(SIZE, "array", sort, n);
            }
            x.due(tooFew.length, "fails", 5).due(tooFew.length, "fails", 0).due(0, "count", 0);
        }
    }

    private static void lists() {
        says("A LIST: its number. FULL.");
        Run x = new Run();
        x.due(0, "list").due(0, "about", 0).due(OUT, "entry", 0, 0).due(1, "list").due(2, "count", 0);
        x.due(1, "push", 0, 1).due(0, "about", 1).due(1, "about", 0);
    }

    private static void maps() {
        says("A MAP: its number. FULL.");
        Run x = new Run();
        x.due(0, "map").due(0, "about", 0).due(NONE, "keyed", 0, 0).due(NONE, "keyed", 0, 999);
        x.due(1, "map").due(2, "count", 0).due(1, "key", 0, 0, 1).due(0, "about", 1).due(1, "about", 0);
    }

    private static void partClasses() {
        says("class 0 is PART itself (none is made of it alone)");
        new Run().due(BAD, "part", 0).due(0, "count", 0);
        says("A PART of a CLASS (1 .. 7): its number. BAD, FULL.");
        Run x = new Run();
        for (int cls = 1; cls < 8; cls++) {
            x.due(cls - 1, "part", cls).due(cls, "about", cls - 1);
        }
        for (int cls : outside(1, 7)) {
            x.due(BAD, "part", cls);
        }
        x.due(7, "count", 0).due(0, "fails", 0);
    }

    private static void fieldsAreBare() {
        says("FIELDS, as classes tell them (what each takes), all bare at first");
        int[][] tellers = {{0}, {0, 1}, {0, 1, 2}, {0, 1, 2, 3}, {0, 1, 4}, {0, 5}, {0, 5, 6}, {0, 7}};
        for (int cls = 1; cls < 8; cls++) {
            Run x = new Run();
            x.due(0, "part", cls);
            int fields = 0;
            for (int teller : tellers[cls]) {
                for (int f = 0; f < FIELDS[teller]; f++) {
                    x.due(NONE, "held", 0, teller, f);
                    fields++;
                }
            }
            x.due(0, "find", 0, 0, 0).due(fields, "meter", 1).due(0, "fails", 0);
        }
    }

    private static void vaultsAreOpen() {
        says("A VAULT is open (at first) or SHUT.");
        Run x = new Run();
        x.done("part", 7);
        x.due(7, "ask", 0, 0).due(0, "find", 0, 0, 0).due(0, "meter", 6).due(0, "lock", 0, true);
    }

    private static void plains() {
        says("A PLAIN of v: its number. FULL.");
        int[] values = {0, 1, -1, MIN, MAX, NOTHING, FAR, UNKNOWN, BAD, FULL, STATE, 65536, -32769, 256};
        Run x = new Run();
        for (int t = 0; t < values.length; t++) {
            x.due(t, "plain", values[t]);
        }
        for (int t = 0; t < values.length; t++) {
            x.due(values[t], "about", t);
        }
        x.due(0, "fails", 0);
    }

    private static void copies() {
        says("A ROW like one that is there, its ITEMS, too: its number.");
        long[] firsts = {-128, -32768, MIN, Long.MIN_VALUE, -4000000000L, -4000000000L, 1, 65535};
        long[] lasts = {127, 32767, MAX, Long.MAX_VALUE, 4000000000L, 3999999999L, 1, 32768};
        for (int lane = 0; lane < 8; lane++) {
            Run x = new Run();
            x.done("row", lane, 24);
            x.done("put", 0, 0, lane, firsts[lane]);
            x.done("put", 0, 23, lane, lasts[lane]);
            x.due(1, "copy", 0).due(0, "kind", 1).due(lane, "about", 1).due(24, "length", 1);
            x.due(firsts[lane], "get", 1, 0, lane).due(lasts[lane], "get", 1, 23, lane);
            for (int i = 1; i < 23; i++) {
                x.due(0, "get", 1, i, lane);
            }
            x.due(2, "copy", 1).due(lasts[lane], "get", 2, 23, lane);
            x.due(3, "row", lane, 0).due(4, "copy", 3).due(lane, "about", 4).due(0, "length", 4);
        }
    }

    private static void copiesByThemselves() {
        says("A ROW like one that is there");
        for (int lane = 0; lane < 8; lane++) {
            Run x = new Run();
            x.done("part", 1);
            x.done("row", lane, 2);
            x.done("put", 1, 0, lane, 1);
            x.done("hold", 0, 1, 0, 1);
            x.due(1, "find", 0, 0, 0).due(1, "keep");
            x.due(2, "copy", 1).due(1, "count", 1).due(1, "count", 3).due(1, "at", 0, 0);
            x.done("put", 2, 0, lane, 0);
            x.due(1, "get", 1, 0, lane).due(1, "put", 1, 1, lane, 1).due(0, "get", 2, 1, lane);
            x.due(1, "back").due(0, "get", 2, 0, lane).due(1, "get", 1, 0, lane).due(0, "get", 1, 1, lane);
            x.due(3, "copy", 1).due(1, "get", 3, 0, lane);
        }
    }

    private static void copyRefusals() {
        says("UNKNOWN, FULL; KIND: it is no ROW.");
        Run x = new Run();
        x.done("array", 5, 1);
        x.done("list");
        x.done("map");
        x.done("part", 1);
        x.done("plain", 0);
        for (int t = 0; t < 5; t++) {
            x.due(KIND, "copy", t).due(t + 1, "fails", 4);
        }
        for (int t : outside(0, 4)) {
            x.due(UNKNOWN, "copy", t);
        }
        x.due(5, "fails", 0).due(5, "count", 0);
    }

    private static void abouts() {
        says("Of a ROW its LANE, of an ARRAY its SORT, of a PART its CLASS, of a LIST how many ENTRIES, of a MAP how many KEYS");
        Run x = new Run();
        x.done("list");
        x.done("map");
        for (int n = 1; n <= 12; n++) {
            x.due(n - 1, "about", 0).due(n, "push", 0, n % 2 - 1);
        }
        x.due(12, "about", 0).due(FULL, "push", 0, 0).due(12, "about", 0);
        for (int n = 1; n <= 8; n++) {
            x.due(n - 1, "about", 1).due(n, "key", 1, 999 - n, 0);
        }
        x.due(8, "about", 1).due(FULL, "key", 1, 999, 0).due(8, "about", 1);
        x.due(7, "key", 1, 998, -1).due(7, "about", 1);
        says("UNKNOWN (what a PLAIN tells may be as that).");
        x.done("plain", UNKNOWN);
        x.done("plain", CAST);
        x.due(UNKNOWN, "about", 2).due(CAST, "about", 3).due(0, "fails", 0);
        for (int t : outside(0, 3)) {
            x.due(UNKNOWN, "about", t);
        }
        x.due(0, "fails", 0);
    }

    private static void lengths() {
        says("How many ITEMS, SPOTS. UNKNOWN; KIND: neither ROW nor ARRAY.");
        Run x = new Run();
        x.done("list");
        x.done("map");
        x.done("part", 6);
        x.done("plain", 12);
        x.done("push", 0, 0);
        x.done("key", 1, 0, 0);
        for (int t = 0; t < 4; t++) {
            x.due(KIND, "length", t).due(t + 1, "fails", 4);
        }
        x.due(4, "row", 6, 24).due(24, "length", 4).due(5, "row", 6, 0).due(0, "length", 5);
        x.due(6, "array", 4, 12).due(12, "length", 6).due(7, "array", 4, 0).due(0, "length", 7);
        for (int t : outside(0, 7)) {
            x.due(UNKNOWN, "length", t);
        }
        x.due(4, "fails", 0);
    }
}
