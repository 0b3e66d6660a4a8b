/** The boundary cases of findings: Terms 5, promises 27 to 31. */
public final class FindEdgesTest extends Due {
    private static final int LAYER = 1, DENSE = 2, DEEP = 3, NORM = 4, BLOCK = 5, BANK = 6, VAULT = 7;
    private static final int FIELD = 0, SPOT = 1, ENTRY = 2, KEY = 3;
    private static final int[][] TELLERS = {{0}, {0, 1}, {0, 1, 2}, {0, 1, 2, 3}, {0, 1, 4}, {0, 5}, {0, 5, 6}, {0, 7}};

    public static void main(String[] args) {
        nothingToFind();
        fieldsInOrder();
        fortyAtMost();
        fortyFirstIsFull();
        nothingIsMetBehindIt();
        fortyFirstIsNone();
        fortyAgainAndLeft();
        buffers();
        shutSecrets();
        bare();
        plains();
        leftBeforeAgain();
        rowsAgain();
        othersAgain();
        emptyThings();
        fullThings();
        leastKeyFirst();
        longestPath();
        frozen();
        parametersOfTheLatest();
        meterOfTheLatest();
        shutLast();
        ruleOfReals();
        ruleOfItems();
        rulesOfLanes();
        rulesOfNoNumber();
        gone();
        notGone();
        findRefusals();
        atRefusals();
        stepRefusals();
        underRefusals();
        under();
        meterRefusals();
        end();
    }

    private static void meters(Run x, int... want) {
        for (int what = 0; what < 8; what++) {
            x.due(want[what], "meter", what);
        }
    }

    private static void found(Run x, int... things) {
        x.due(things.length, "count", 1);
        for (int i = 0; i < things.length; i++) {
            x.due(things[i], "at", i, 0);
        }
        x.due(BAD, "at", things.length, 0);
    }

    /** Each STEP as what it is and its number. */
    private static void path(Run x, int i, int... steps) {
        x.due(steps.length / 2, "at", i, 4);
        for (int k = 0; k < steps.length / 2; k++) {
            x.due(steps[2 * k], "step", i, k, 0).due(steps[2 * k + 1], "step", i, k, 1);
        }
        x.due(BAD, "step", i, steps.length / 2, 0).due(BAD, "step", i, -1, 1);
    }

    private static void nothingToFind() {
        says("FINDS from a PART by a RULE: how many PARAMETERS.");
        for (int cls = 1; cls < 8; cls++) {
            Run x = new Run();
            x.done("part", cls);
            x.due(0, "find", 0, 0, 0).due(0, "count", 1).due(1, "count", 2).due(BAD, "at", 0, 0);
            int fields = 0;
            for (int teller : TELLERS[cls]) {
                fields += FIELDS[teller];
            }
            meters(x, 1, fields, 0, 0, 0, 0, 0, NONE);
        }
    }

    /** A THING that the FIELD takes with just one ROW in it, or such a ROW. */
    private static int load(Run x, int cls, int f) {
        if (cls == DEEP && f == 1 || cls == BLOCK || cls == BANK && f == 1) {
            int layer = x.done("part", LAYER);
            x.done("hold", layer, 0, 0, x.done("row", 0, 1));
            if (cls != BANK) {
                return layer;
            }
            int stack = x.done("array", 1, 1);
            x.done("lay", stack, 0, layer);
            return stack;
        }
        int row = x.done("row", cls == NORM && f == 0 ? 4 : 5, 1);
        if (cls == BANK) {
            int table = x.done("array", 5, 1);
            x.done("lay", table, 0, row);
            return table;
        }
        return row;
    }

    private static void fieldsInOrder() {
        says("its FIELDS, those of PART first, then of each class below down to its own, in order");
        for (int cls = 1; cls < 8; cls++) {
            Run x = new Run();
            x.done("part", cls);
            int[] tellers = TELLERS[cls];
            int fields = 0;
            // filled from the last one on, so that no other order is the same by chance
            for (int n = tellers.length - 1; n >= 0; n--) {
                for (int f = FIELDS[tellers[n]] - 1; f >= 0; f--) {
                    x.done("hold", 0, tellers[n], f, load(x, tellers[n], f));
                    fields++;
                }
            }
            x.due(fields, "find", 0, 0, 0);
            int i = 0;
            for (int teller : tellers) {
                for (int f = 0; f < FIELDS[teller]; f++) {
                    x.due(FIELD, "step", i, 0, 0).due(10 * teller + f, "step", i, 0, 1);
                    i++;
                }
            }
        }
    }

    /** LAYER 0, LIST 1 as its WEIGHT, LISTS 2 .. 5 in this, ROWS 6 .. 45 of longs, ten in each of these. */
    private static Run forty() {
        Run x = new Run();
        x.done("part", LAYER);
        for (int l = 1; l <= 5; l++) {
            x.done("list");
        }
        x.done("hold", 0, 1, 0, 1);
        for (int l = 2; l <= 5; l++) {
            x.done("push", 1, l);
            for (int n = 0; n < 10; n++) {
                x.done("push", l, x.done("row", 3, 1));
            }
        }
        return x;
    }

    private static void fortyAtMost() {
        says("PARAMETERS (40 at most) are the ROWS that are met and that the RULE takes");
        Run x = forty();
        x.due(40, "find", 0, 0, 0).due(40, "count", 1).due(6, "at", 0, 0).due(45, "at", 39, 0).due(BAD, "at", 40, 0);
        path(x, 39, FIELD, 10, ENTRY, 3, ENTRY, 9);
        x.due(40, "under", 39, 0, 0).due(10, "under", 39, 2, 0).due(40, "under", 0, 1, 1).due(40, "keep");
        x.due(1, "each", 39, 0, 5).due(5, "sum", 39, 3).due(40, "back").due(0, "sum", 39, 3);
        x.due(1, "set", 39, 6).due(6, "at", 39, 0).due(39, "keep").due(39, "count", 3);
        meters(x, 1, 1, 0, 0, 0, 0, 0, NONE);
    }

    /** forty(), and in LIST 1 behind its four LISTS PLAIN 46, a bare ENTRY, ROW 6 and LIST 2 again, SHUT VAULT 47, ROW 48. */
    private static Run fortyOne() {
        Run x = forty();
        x.done("push", 1, x.done("plain", 5));
        x.done("push", 1, -1);
        x.done("push", 1, 6);
        x.done("push", 1, 2);
        int vault = x.done("part", VAULT);
        x.done("lock", vault, true);
        x.done("push", 1, vault);
        x.done("push", 1, x.done("row", 5, 2));
        x.done("mark", 0, 0, 2);
        return x;
    }

    private static void fortyFirstIsFull() {
        says("A 41st PARAMETER: FULL, and there are none (the METER stays as it came).");
        Run x = fortyOne();
        x.due(1, "find", 0, 3, 5).due(1, "keep").due(48, "at", 0, 0);
        x.due(FULL, "find", 0, 0, 0).due(0, "count", 1).due(2, "count", 2).due(1, "count", 3).due(0, "fails", 0);
        meters(x, 2, 1, 2, 1, 0, 2, 1, 47);
        x.due(BAD, "at", 0, 0).due(BAD, "step", 0, 0, 0).due(BAD, "under", 0, 0, 0).due(BAD, "set", 0, 6);
        x.due(BAD, "each", 0, 0, 0).due(BAD, "sum", 0, 3).due(1, "back").due(0, "keep").due(0, "count", 3);
        x.due(FULL, "find", 0, 2, 1).due(3, "count", 2);
        meters(x, 2, 1, 2, 1, 0, 2, 1, 47);
        x.due(40, "find", 0, 3, 3).due(40, "count", 1).due(6, "at", 0, 0).due(1, "at", 0, 5).due(45, "at", 39, 0);
        meters(x, 2, 1, 2, 1, 1, 2, 1, 47);
    }

    private static void nothingIsMetBehindIt() {
        says("A 41st PARAMETER: FULL");
        Run x = fortyOne();
        x.done("push", 1, x.done("part", VAULT));
        x.done("lock", 49, true);
        x.done("push", 1, -1);
        x.due(FULL, "find", 0, 0, 0);
        meters(x, 2, 1, 2, 1, 0, 2, 1, 47);
        x.due(40, "find", 0, 3, 3);
        meters(x, 3, 2, 2, 1, 1, 3, 2, 49);
    }

    /** A finding that is FULL leaves none of those before it either. */
    private static void fortyFirstIsNone() {
        says("and there are none");
        Run x = fortyOne();
        x.due(40, "find", 0, 3, 3).due(FULL, "find", 0, 0, 0).due(0, "count", 1).due(BAD, "at", 39, 0);
        x.due(0, "keep").due(0, "back");
        x.due(1, "hold", 0, 1, 0, 5).due(10, "find", 0, 0, 0).due(36, "at", 0, 0).due(0, "at", 0, 5);
    }

    private static void fortyAgainAndLeft() {
        says("each once, as they are met first");
        Run x = forty();
        x.done("push", 1, 6);
        x.done("push", 1, 45);
        x.done("push", 1, x.done("row", 6, 1));
        x.due(40, "find", 0, 4, 5).due(1, "at", 0, 5).due(1, "at", 39, 5).due(0, "at", 1, 5);
        meters(x, 1, 1, 2, 0, 1, 0, 0, NONE);
        x.due(FULL, "find", 0, 0, 0);
        meters(x, 1, 1, 2, 0, 0, 0, 0, NONE);
    }

    private static void buffers() {
        says("a BUFFER is passed over");
        for (int marks = 0; marks < 8; marks++) {
            Run x = new Run();
            x.done("part", NORM);
            x.done("row", 4, 1);
            x.done("part", BLOCK);
            x.done("hold", 0, 4, 0, 1);
            x.done("hold", 0, 1, 0, 2);
            x.done("mark", 4, 0, marks);
            boolean buffer = (marks & 2) != 0;
            x.due(buffer ? 0 : 1, "find", 0, 0, 0);
            meters(x, 2, 5, 0, 0, 0, buffer ? 1 : 0, 0, NONE);
            x.done("mark", 1, 0, marks);
            x.due(buffer ? 0 : 1, "find", 0, 0, 0);
            meters(x, buffer ? 1 : 2, buffer ? 2 : 5, 0, 0, 0, buffer ? 2 : 0, 0, NONE);
            x.done("mark", 4, 1, marks);
            x.due(buffer ? 0 : 1, "find", 0, 0, 0);
            meters(x, buffer ? 1 : 2, buffer ? 1 : 5, 0, 0, 0, buffer ? 3 : 0, 0, NONE);
        }
    }

    private static void shutSecrets() {
        says("SECRET of a VAULT that is SHUT is SHUT");
        Run x = new Run();
        x.done("part", VAULT);
        x.done("row", 0, 1);
        x.done("row", 0, 1);
        x.due(0, "find", 0, 0, 0);
        meters(x, 1, 2, 0, 0, 0, 0, 0, NONE);
        x.done("lock", 0, true);
        x.due(0, "find", 0, 0, 0);
        meters(x, 1, 1, 0, 0, 0, 0, 1, 0);
        x.done("hold", 0, 7, 0, 1);
        x.done("hold", 0, 0, 0, 2);
        x.due(1, "find", 0, 0, 0);
        found(x, 2);
        meters(x, 1, 0, 0, 0, 0, 0, 1, 0);
        x.done("mark", 7, 0, 2);
        x.due(1, "find", 0, 0, 0);
        meters(x, 1, 0, 0, 0, 0, 1, 0, NONE);
        x.done("mark", 7, 0, 5);
        x.due(1, "find", 0, 0, 0);
        meters(x, 1, 0, 0, 0, 0, 0, 1, 0);
        x.done("lock", 0, false);
        x.due(2, "find", 0, 0, 0);
        found(x, 2, 1);
        meters(x, 1, 0, 0, 0, 0, 0, 0, NONE);
        x.due(1, "at", 1, 3).due(0, "at", 0, 3);
    }

    private static void bare() {
        says("COME TO: a bare place is BARE");
        Run x = new Run();
        x.done("part", LAYER);
        x.done("array", 0, 12);
        x.done("list");
        x.done("hold", 0, 0, 0, 1);
        x.due(0, "find", 0, 0, 0);
        meters(x, 1, 13, 0, 0, 0, 0, 0, NONE);
        for (int n = 0; n < 12; n++) {
            x.done("push", 2, -1);
        }
        x.done("hold", 0, 1, 0, 2);
        x.due(0, "find", 0, 0, 0);
        meters(x, 1, 24, 0, 0, 0, 0, 0, NONE);
    }

    private static void plains() {
        says("a PLAIN is PLAIN");
        Run x = new Run();
        x.done("part", LAYER);
        x.done("plain", 0);
        x.done("map");
        x.done("hold", 0, 0, 0, 1);
        x.done("hold", 0, 1, 0, 2);
        for (int k = 0; k < 8; k++) {
            x.done("key", 2, k, 1);
        }
        x.due(0, "find", 0, 0, 0);
        meters(x, 1, 0, 0, 9, 0, 0, 0, NONE);
    }

    private static void leftBeforeAgain() {
        says("a ROW is LEFT, if the RULE does not take it, AGAIN, if it is a PARAMETER already, else the next PARAMETER");
        Run x = new Run();
        x.done("part", DEEP);
        x.done("row", 5, 1);
        x.done("row", 2, 1);
        x.done("hold", 0, 0, 0, 2);
        x.done("hold", 0, 1, 0, 1);
        x.done("hold", 0, 2, 0, 1);
        x.done("hold", 0, 2, 1, 2);
        x.done("hold", 0, 3, 0, 2);
        x.due(1, "find", 0, 1, 0);
        found(x, 1);
        meters(x, 1, 1, 1, 0, 3, 0, 0, NONE);
        x.due(1, "find", 0, 3, 2).due(2, "at", 0, 5);
        found(x, 2);
        meters(x, 1, 1, 2, 0, 2, 0, 0, NONE);
        x.due(0, "find", 0, 2, 2);
        meters(x, 1, 1, 0, 0, 5, 0, 0, NONE);
    }

    private static void rowsAgain() {
        says("FIELDS, SPOTS, ENTRIES, KEYS, by which it was met first", "5 how often it was AGAIN");
        Run x = new Run();
        x.done("part", LAYER);
        x.done("row", 0, 0);
        x.done("row", 0, 0);
        x.done("list");
        x.done("hold", 0, 0, 0, 1);
        x.done("hold", 0, 1, 0, 3);
        for (int n = 0; n < 12; n++) {
            x.done("push", 3, n == 5 ? 2 : 1);
        }
        x.due(2, "find", 0, 0, 0).due(11, "at", 0, 5).due(0, "at", 1, 5);
        meters(x, 1, 0, 11, 0, 0, 0, 0, NONE);
        path(x, 0, FIELD, 0);
        path(x, 1, FIELD, 10, ENTRY, 5);
        x.due(2, "find", 0, 0, 0).due(11, "at", 0, 5).due(0, "at", 1, 5).due(11, "meter", 2);
    }

    private static void othersAgain() {
        says("any other THING is AGAIN, if it was COME TO (or begun with) before in this finding");
        Run x = new Run();
        x.done("part", BLOCK);
        x.done("list");
        x.done("map");
        x.done("array", 4, 3);
        x.done("row", 0, 1);
        x.done("hold", 0, 0, 0, 1);
        x.done("hold", 0, 5, 0, 0);
        x.done("hold", 0, 5, 1, 0);
        int[] entries = {0, 1, 2, 3, 2, 3};
        for (int t : entries) {
            x.done("push", 1, t);
        }
        x.done("key", 2, 1, 1);
        x.done("key", 2, 2, 2);
        x.done("key", 2, 3, 0);
        x.done("key", 2, 4, 4);
        x.done("lay", 3, 0, 0);
        x.done("lay", 3, 2, 0);
        x.due(1, "find", 0, 0, 0);
        path(x, 0, FIELD, 0, ENTRY, 2, KEY, 4);
        meters(x, 1, 1, 11, 0, 0, 0, 0, NONE);
        x.due(0, "at", 0, 5);
        says("before in this finding");
        x.due(1, "find", 0, 0, 0);
        meters(x, 1, 1, 11, 0, 0, 0, 0, NONE);
    }

    private static void emptyThings() {
        says("of an ARRAY all SPOTS, of a LIST all ENTRIES in order, of a MAP all KEYS, the least first, are COME TO");
        Run x = new Run();
        x.done("part", DEEP);
        x.done("array", 0, 0);
        x.done("list");
        x.done("map");
        x.done("hold", 0, 0, 0, 1);
        x.done("hold", 0, 1, 0, 2);
        x.done("hold", 0, 2, 1, 3);
        x.done("hold", 0, 3, 0, 3);
        x.due(0, "find", 0, 0, 0);
        meters(x, 1, 2, 1, 0, 0, 0, 0, NONE);
    }

    private static void fullThings() {
        says("of an ARRAY all SPOTS, of a LIST all ENTRIES in order");
        Run x = new Run();
        x.done("part", DENSE);
        x.done("array", 7, 12);
        x.done("list");
        x.done("map");
        x.done("hold", 0, 0, 0, 1);
        x.done("hold", 0, 1, 0, 2);
        x.done("hold", 0, 2, 1, 3);
        for (int n = 0; n < 12; n++) {
            x.done("lay", 1, n, x.done("row", 2, n));
            x.done("push", 2, x.done("row", 1, n));
        }
        for (int n = 0; n < 8; n++) {
            x.done("key", 3, 999 - n, x.done("row", 0, n));
        }
        x.due(32, "find", 0, 0, 0);
        for (int n = 0; n < 12; n++) {
            x.due(4 + 2 * n, "at", n, 0).due(SPOT, "step", n, 1, 0).due(n, "step", n, 1, 1);
            x.due(5 + 2 * n, "at", 12 + n, 0).due(ENTRY, "step", 12 + n, 1, 0).due(n, "step", 12 + n, 1, 1);
        }
        for (int n = 0; n < 8; n++) {
            x.due(35 - n, "at", 24 + n, 0).due(KEY, "step", 24 + n, 1, 0).due(992 + n, "step", 24 + n, 1, 1);
        }
        meters(x, 1, 1, 0, 0, 0, 0, 0, NONE);
    }

    private static void leastKeyFirst() {
        says("of a MAP all KEYS, the least first");
        int[][] orders = {{0, 999, 500, 1}, {999, 500, 1, 0}, {1, 0, 999, 500}, {500, 999, 0, 1}};
        int[] sorted = {0, 1, 500, 999};
        for (int[] order : orders) {
            Run x = new Run();
            x.done("part", LAYER);
            x.done("map");
            x.done("hold", 0, 0, 0, 1);
            x.done("key", 1, 250, 0);
            for (int k : order) {
                x.done("key", 1, k, x.done("row", 0, k % 7));
            }
            x.done("key", 1, 250, -1);
            x.due(4, "find", 0, 0, 0);
            for (int i = 0; i < 4; i++) {
                x.due(sorted[i], "step", i, 1, 1).due(sorted[i] % 7, "at", i, 2);
            }
        }
    }

    /** 79 THINGS within one another, then a ROW; the first FIELD is FROZEN. */
    private static void longestPath() {
        says("THE PATH of a PARAMETER: its STEPS from the PART that was begun with",
            "STEP k of the PATH of PARAMETER i: what it is (what = 0: 0 FIELD, 1 SPOT, 2 ENTRY, 3 KEY)");
        Run x = new Run();
        x.done("part", VAULT);
        for (int t = 1; t < 79; t++) {
            if (t % 2 == 1) {
                x.done("list");
            } else {
                x.done("map");
            }
        }
        x.done("row", 7, 24);
        x.done("hold", 0, 7, 0, 1);
        for (int t = 1; t < 79; t++) {
            if (t % 2 == 1) {
                x.done("push", t, t + 1);
            } else {
                x.done("key", t, 999 - t, t + 1);
            }
        }
        x.done("mark", 7, 0, 1);
        x.due(1, "find", 0, 0, 0).due(79, "at", 0, 4).due(1, "at", 0, 3);
        x.due(FIELD, "step", 0, 0, 0).due(70, "step", 0, 0, 1);
        for (int k = 1; k < 79; k++) {
            x.due(k % 2 == 1 ? ENTRY : KEY, "step", 0, k, 0).due(k % 2 == 1 ? 0 : 999 - k, "step", 0, k, 1);
        }
        x.due(BAD, "step", 0, 79, 0).due(1, "under", 0, 79, 0).due(24, "under", 0, 78, 1).due(BAD, "under", 0, 80, 0);
        meters(x, 1, 1, 0, 0, 0, 0, 0, NONE);
        x.due(1, "set", 0, 79).due(79, "keyed", 78, 921);
    }

    private static void frozen() {
        says("It is FROZEN, if a FIELD of its PATH was.");
        for (int marks = 0; marks < 8; marks++) {
            if ((marks & 2) == 0) {
                Run x = new Run();
                x.done("part", BLOCK);
                x.done("part", NORM);
                x.done("list");
                x.done("row", 4, 1);
                x.done("row", 4, 1);
                x.done("row", 4, 1);
                x.done("hold", 0, 0, 0, 5);
                x.done("hold", 0, 5, 0, 1);
                x.done("hold", 1, 1, 0, 2);
                x.done("push", 2, 3);
                x.done("hold", 1, 4, 0, 4);
                x.done("hold", 1, 4, 1, 5);
                int cold = marks & 1;
                x.done("mark", 1, 0, marks);
                x.due(3, "find", 0, 0, 0).due(0, "at", 0, 3).due(cold, "at", 1, 3).due(0, "at", 2, 3);
                x.due(0, "under", 2, 2, 2).due(cold, "under", 0, 0, 2);
                x.done("mark", 5, 0, marks);
                x.due(3, "find", 0, 0, 0).due(0, "at", 0, 3).due(cold, "at", 1, 3).due(cold, "at", 2, 3);
                // met first by NOTE of PART, AGAIN by that of NORM
                x.done("mark", 4, 1, marks);
                x.due(3, "find", 0, 0, 0).due(0, "at", 0, 3).due(1, "at", 0, 5);
                x.done("mark", 0, 0, marks);
                x.due(3, "find", 0, 0, 0).due(cold, "at", 0, 3).due(cold * 3, "under", 0, 0, 2);
            }
        }
    }

    /** Nothing of an earlier finding is left: neither where a ROW was met, nor whether it was FROZEN, nor how often AGAIN. */
    private static void parametersOfTheLatest() {
        says("by which it was met first", "FINDS from a PART by a RULE: how many PARAMETERS.");
        Run x = new Run();
        x.done("part", DEEP);
        x.done("part", NORM);
        x.done("list");
        x.done("row", 5, 1);
        x.done("row", 4, 2);
        x.done("hold", 0, 1, 0, 3);
        x.done("hold", 0, 2, 0, 3);
        x.done("hold", 0, 3, 0, 4);
        x.done("hold", 1, 0, 0, 2);
        x.done("push", 2, -1);
        x.done("push", 2, 4);
        x.done("mark", 1, 0, 1);
        x.due(2, "find", 0, 0, 0).due(1, "at", 0, 3).due(1, "at", 0, 5);
        path(x, 0, FIELD, 10);
        path(x, 1, FIELD, 30);
        x.due(1, "find", 1, 0, 0).due(0, "at", 0, 3).due(0, "at", 0, 5);
        found(x, 4);
        path(x, 0, FIELD, 0, ENTRY, 1);
        x.due(1, "under", 0, 0, 0).due(2, "under", 0, 2, 1).due(1, "set", 0, 3).due(3, "entry", 2, 1).due(3, "held", 0, 1, 0);
        x.due(2, "find", 0, 0, 0).due(1, "at", 0, 5).due(0, "at", 1, 5);
        path(x, 0, FIELD, 10);
        path(x, 1, FIELD, 30);
        x.due(0, "find", 1, 3, 4);
        found(x);
    }

    private static void meterOfTheLatest() {
        says("THE METER of the latest finding: 0 PARTS ENTERED, 1 BARE, 2 AGAIN, 3 PLAIN, 4 LEFT, 5 BUFFERS, 6 SHUT");
        Run x = new Run();
        x.done("part", BLOCK);
        x.done("part", VAULT);
        x.done("plain", 1);
        x.done("row", 6, 1);
        x.done("hold", 0, 0, 0, 2);
        x.done("hold", 0, 5, 0, 1);
        x.done("hold", 0, 5, 1, 1);
        x.done("hold", 1, 0, 0, 3);
        x.done("lock", 1, true);
        x.due(0, "find", 0, 1, 0);
        meters(x, 2, 0, 1, 1, 1, 0, 1, 1);
    }

    private static void shutLast() {
        says("7 the THING that is the VAULT that was SHUT last (NONE)");
        Run x = new Run();
        x.done("part", BLOCK);
        x.done("part", VAULT);
        x.done("part", VAULT);
        x.done("hold", 0, 5, 0, 2);
        x.done("hold", 0, 5, 1, 1);
        x.done("lock", 2, true);
        x.done("lock", 1, true);
        x.due(0, "find", 0, 0, 0).due(2, "meter", 6).due(1, "meter", 7);
        x.done("lock", 1, false);
        x.due(2, "meter", 6).due(1, "meter", 7);
        x.due(0, "find", 0, 0, 0).due(1, "meter", 6).due(2, "meter", 7);
        x.done("lock", 2, false);
        x.due(0, "find", 0, 0, 0).due(0, "meter", 6).due(NONE, "meter", 7);
        x.done("lock", 2, true);
        x.due(0, "find", 2, 0, 0).due(1, "meter", 6).due(2, "meter", 7);
        x.due(0, "find", 1, 0, 0).due(0, "meter", 6).due(NONE, "meter", 7);
    }

    /** LAYER 0, LIST 1 as its NOTE, ROWS 2 .. 9 of LANES 0 .. 7 in it, of as many ITEMS as their LANES' numbers. */
    private static Run lanes() {
        Run x = new Run();
        x.done("part", LAYER);
        x.done("list");
        x.done("hold", 0, 0, 0, 1);
        for (int lane = 0; lane < 8; lane++) {
            x.done("push", 1, x.done("row", lane, lane));
        }
        return x;
    }

    private static void ruleOfReals() {
        says("1 floats and doubles");
        Run x = lanes();
        int[] numbers = {0, 4, -1, MIN, MAX};
        for (int n : numbers) {
            x.due(2, "find", 0, 1, n).due(6, "meter", 4);
            found(x, 6, 7);
        }
    }

    private static void ruleOfItems() {
        says("2 at least n ITEMS");
        Run x = lanes();
        x.due(8, "find", 0, 2, MIN).due(8, "find", 0, 2, -1).due(8, "find", 0, 2, 0).due(0, "meter", 4);
        x.due(7, "find", 0, 2, 1).due(1, "meter", 4).due(3, "at", 0, 0);
        x.due(1, "find", 0, 2, 7).due(9, "at", 0, 0).due(7, "meter", 4);
        x.due(0, "find", 0, 2, 8).due(8, "meter", 4).due(0, "find", 0, 2, MAX);
        x.done("push", 1, x.done("row", 6, 24));
        x.due(1, "find", 0, 2, 24).due(10, "at", 0, 0).due(0, "find", 0, 2, 25);
    }

    private static void rulesOfLanes() {
        says("3 LANE n; 4 no ticks, and not LANE n");
        for (int lane = 0; lane < 8; lane++) {
            Run x = lanes();
            x.due(1, "find", 0, 3, lane).due(2 + lane, "at", 0, 0).due(7, "meter", 4);
            x.due(lane == 6 ? 7 : 6, "find", 0, 4, lane).due(lane == 6 ? 1 : 2, "meter", 4);
            int i = 0;
            for (int other = 0; other < 8; other++) {
                if (other != lane && other != 6) {
                    x.due(2 + other, "at", i, 0).due(other, "at", i, 1);
                    i++;
                }
            }
        }
        Run x = lanes();
        for (int n : outside(0, 7)) {
            x.due(0, "find", 0, 3, n).due(8, "meter", 4).due(7, "find", 0, 4, n).due(1, "meter", 4);
        }
    }

    private static void rulesOfNoNumber() {
        says("RULES: 0 all");
        Run x = lanes();
        int[] numbers = {0, 6, 25, -1, MIN, MAX};
        for (int n : numbers) {
            x.due(8, "find", 0, 0, n).due(0, "meter", 4).due(8, "count", 1);
        }
    }

    /** 0 LAYER, 1 LIST, 2 MAP, 3 ARRAY of DENSES, 4 VAULT, 5 ROW; 6 DENSE, 7 LIST, 8 MAP, 9 ARRAY, 10 VAULT are not met. */
    private static Run oneFound() {
        Run x = new Run();
        x.done("part", LAYER);
        x.done("list");
        x.done("map");
        x.done("array", 2, 1);
        x.done("part", VAULT);
        x.done("row", 0, 1);
        x.done("part", DENSE);
        x.done("list");
        x.done("map");
        x.done("array", 2, 1);
        x.done("part", VAULT);
        x.done("hold", 0, 0, 0, 1);
        x.done("push", 1, 2);
        x.done("push", 1, 3);
        x.done("push", 1, 4);
        x.done("key", 2, 7, 5);
        x.done("put", 5, 0, 0, 9);
        x.due(1, "find", 0, 0, 0);
        meters(x, 2, 4, 0, 0, 0, 0, 0, NONE);
        return x;
    }

    private static void goneAfter(long want, String name, Object... args) {
        Run x = oneFound();
        x.due(1, "count", 1).due(want, name, args).due(0, "count", 1);
        x.due(BAD, "at", 0, 0).due(BAD, "step", 0, 0, 0).due(BAD, "under", 0, 0, 0).due(BAD, "set", 0, 5);
        x.due(BAD, "each", 0, 0, 0).due(BAD, "sum", 0, 3).due(0, "keep").due(1, "count", 2);
        meters(x, 2, 4, 0, 0, 0, 0, 0, NONE);
    }

    private static void gone() {
        says("PARAMETERS are gone (the METER stays) as a FIELD, a SPOT, an ENTRY, a KEY, MARKS, a VAULT is told anew");
        goneAfter(1, "hold", 0, 0, 0, -1);
        goneAfter(1, "hold", 0, 1, 0, 5);
        goneAfter(1, "lay", 3, 0, 6);
        goneAfter(4, "push", 1, 5);
        goneAfter(4, "push", 1, -1);
        goneAfter(2, "key", 2, 8, 5);
        goneAfter(0, "key", 2, 7, -1);
        goneAfter(0, "mark", 0, 0, 1);
        goneAfter(0, "mark", 6, 1, 4);
        goneAfter(0, "lock", 4, true);
        says("(also as it was before)");
        goneAfter(1, "hold", 0, 0, 0, 1);
        goneAfter(1, "hold", 0, 1, 0, -1);
        goneAfter(1, "lay", 3, 0, -1);
        goneAfter(1, "key", 2, 7, 5);
        goneAfter(1, "key", 2, 8, -1);
        goneAfter(0, "mark", 0, 0, 0);
        goneAfter(0, "lock", 4, false);
        says("is told anew by another call than set()");
        goneAfter(1, "hold", 6, 0, 0, -1);
        goneAfter(1, "hold", 6, 1, 0, 6);
        goneAfter(1, "push", 7, -1);
        goneAfter(1, "key", 8, 0, 8);
        goneAfter(1, "lay", 9, 0, -1);
        goneAfter(1, "lay", 9, 0, 6);
        goneAfter(0, "lock", 10, true);
        goneAfter(0, "lock", 10, false);
    }

    private static void stays(Object want, String name, Object... args) {
        Run x = oneFound();
        x.outcomeIs(want, name, args).due(1, "count", 1).due(5, "at", 0, 0).due(3, "at", 0, 4);
        meters(x, 2, 4, 0, 0, 0, 0, 0, NONE);
    }

    private static void notGone() {
        says("by another call than set()");
        stays(1L, "set", 0, 5);
        says("is told anew");
        stays(11L, "row", 0, 1);
        stays(11L, "array", 0, 1);
        stays(11L, "list");
        stays(11L, "map");
        stays(11L, "part", 7);
        stays(11L, "plain", 7);
        stays(11L, "copy", 5);
        stays(9L, "get", 5, 0, 0);
        stays(1L, "put", 5, 0, 0, 3);
        stays(4L, "take", 4, 23);
        stays(1L, "held", 0, 0, 0);
        stays(-1L, "spot", 3, 0);
        stays(2L, "entry", 1, 0);
        stays(5L, "keyed", 2, 7);
        stays(7L, "ask", 4, 0);
        stays(1L, "each", 0, 0, 1);
        stays(9L, "sum", 0, 3);
        stays(1L, "keep");
        stays(0L, "back");
        says("What is refused, found or throws changes nothing but counts");
        stays((long) CAST, "hold", 0, 2, 0, -1);
        stays((long) UNKNOWN, "hold", 0, 0, 0, 11);
        stays((long) BAD, "hold", 0, 0, 1, -1);
        stays(STORE_THROWN, "lay", 3, 0, 4);
        stays(INDEX_THROWN, "lay", 3, 1, -1);
        stays(CAST_THROWN, "lay", 3, 0, 5);
        stays((long) CAST, "push", 2, 5);
        stays((long) CAST, "key", 1, 7, 5);
        stays((long) BAD, "key", 2, 1000, 5);
        stays((long) BAD, "mark", 0, 0, 8);
        stays((long) BAD, "mark", 0, 1, 0);
        stays((long) CAST, "lock", 0, true);
        stays((long) UNKNOWN, "find", 11, 0, 0);
        stays((long) BAD, "find", 0, 5, 0);
        stays((long) CAST, "find", 5, 0, 0);
    }

    private static void findRefusals() {
        says("UNKNOWN, BAD (rule); CAST: no PART; FULL.");
        Run x = oneFound();
        for (int p : outside(0, 10)) {
            x.due(UNKNOWN, "find", p, 0, 0);
        }
        for (int rule : outside(0, 4)) {
            x.due(BAD, "find", 0, rule, 0);
        }
        x.due(0, "fails", 0);
        int[] noParts = {1, 2, 3, 5};
        for (int p : noParts) {
            x.due(CAST, "find", p, 0, 0).due(CAST, "find", p, 4, 0);
        }
        x.due(8, "fails", 2).due(8, "fails", 0).due(1, "count", 2).due(1, "count", 1);
        meters(x, 2, 4, 0, 0, 0, 0, 0, NONE);
        x.due(1, "find", 0, 4, 5).due(2, "count", 2);
    }

    private static void atRefusals() {
        says("Of PARAMETER i: 0 the THING, 1 its LANE, 2 its ITEMS, 3 FROZEN (1, 0), 4 how many STEPS, 5 how often it was AGAIN.",
            "BAD: no such.");
        Run x = lanes();
        x.due(8, "find", 0, 0, 0);
        for (int i : outside(0, 7)) {
            for (int what = 0; what < 6; what++) {
                x.due(BAD, "at", i, what);
            }
        }
        for (int what : outside(0, 5)) {
            x.due(BAD, "at", 0, what).due(BAD, "at", 7, what);
        }
        for (int i = 0; i < 8; i++) {
            x.due(2 + i, "at", i, 0).due(i, "at", i, 1).due(i, "at", i, 2).due(0, "at", i, 3).due(2, "at", i, 4)
                .due(0, "at", i, 5);
        }
        x.due(0, "fails", 0);
    }

    private static void stepRefusals() {
        says("its number (1: of a FIELD 10 times the class that tells it and f). BAD: no such.");
        Run x = lanes();
        x.due(8, "find", 0, 0, 0);
        for (int i : outside(0, 7)) {
            x.due(BAD, "step", i, 0, 0).due(BAD, "step", i, 1, 1);
        }
        for (int k : outside(0, 1)) {
            x.due(BAD, "step", 0, k, 0).due(BAD, "step", 7, k, 1);
        }
        for (int what : outside(0, 1)) {
            x.due(BAD, "step", 0, 0, what).due(BAD, "step", 7, 1, what);
        }
        x.due(FIELD, "step", 7, 0, 0).due(0, "step", 7, 0, 1).due(ENTRY, "step", 7, 1, 0).due(7, "step", 7, 1, 1);
        x.due(0, "fails", 0);
    }

    private static void underRefusals() {
        says("BAD: no PARAMETER i, n is not 0 .. its STEPS, another what.");
        Run x = lanes();
        x.due(8, "find", 0, 0, 0);
        for (int i : outside(0, 7)) {
            x.due(BAD, "under", i, 0, 0).due(BAD, "under", i, 1, 1);
        }
        for (int n : outside(0, 2)) {
            x.due(BAD, "under", 0, n, 0).due(BAD, "under", 7, n, 2);
        }
        for (int what : outside(0, 2)) {
            x.due(BAD, "under", 0, 0, what).due(BAD, "under", 7, 2, what);
        }
        x.due(8, "under", 0, 0, 0).due(28, "under", 7, 0, 1).due(0, "under", 7, 0, 2);
        x.due(8, "under", 3, 1, 0).due(28, "under", 3, 1, 1).due(1, "under", 3, 2, 0).due(3, "under", 3, 2, 1);
        x.due(0, "fails", 0);
    }

    /** A BLOCK with the same FIELDS and ENTRIES in LEFT and in RIGHT: only the first STEP tells them apart. */
    private static void under() {
        says("Of the PARAMETERS with the same first n STEPS as i: how many (what = 0), their ITEMS together (1), how many are FROZEN (2)");
        Run x = new Run();
        x.done("part", BLOCK);
        for (int side = 0; side < 2; side++) {
            int layer = x.done("part", LAYER);
            int list = x.done("list");
            x.done("hold", 0, 5, side, layer);
            x.done("hold", layer, 0, 0, list);
            x.done("push", list, x.done("row", 0, 3 + side));
            x.done("push", list, x.done("row", 0, 10 + side));
            x.done("hold", layer, 1, 0, x.done("row", 0, 24));
        }
        x.done("hold", 0, 0, 0, x.done("row", 0, 0));
        x.done("mark", 1, 0, 1);
        x.due(7, "find", 0, 0, 0);
        int[][] want = {
            // i, n, how many, ITEMS, FROZEN
            {0, 0, 7, 76, 2}, {0, 1, 1, 0, 0}, {1, 0, 7, 76, 2}, {1, 1, 3, 37, 1}, {1, 2, 2, 13, 0}, {1, 3, 1, 3, 0},
            {2, 3, 1, 10, 0}, {3, 1, 3, 37, 1}, {3, 2, 1, 24, 1}, {4, 1, 3, 39, 1}, {4, 2, 2, 15, 0}, {4, 3, 1, 4, 0},
            {5, 2, 2, 15, 0}, {5, 3, 1, 11, 0}, {6, 1, 3, 39, 1}, {6, 2, 1, 24, 1}, {6, 0, 7, 76, 2}};
        for (int[] row : want) {
            for (int what = 0; what < 3; what++) {
                x.due(row[2 + what], "under", row[0], row[1], what);
            }
        }
        x.due(BAD, "under", 0, 2, 0).due(BAD, "under", 3, 3, 0).due(BAD, "under", 5, 4, 0);
    }

    private static void meterRefusals() {
        says("THE METER. BAD.");
        Run x = new Run();
        for (int what : outside(0, 7)) {
            x.due(BAD, "meter", what);
        }
        x.due(0, "meter", 0).due(NONE, "meter", 7).due(0, "fails", 0);
    }
}
