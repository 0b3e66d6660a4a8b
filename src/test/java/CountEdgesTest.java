/** The boundary cases of counts: FINDINGS and REFUSALS of Terms 3, promises 37 and 38. */
public final class CountEdgesTest extends Due {
    public static void main(String[] args) {
        findingsByThemselves();
        refusalsAreNone();
        thrownAreNone();
        wordsAreNone();
        failsRefusals();
        countRefusals();
        countsOfFindings();
        countsOfKept();
        fiveHundredAndTwelveCalls();
        end();
    }

    /** A call that answers a FINDING, which is counted once, as itself and among all. */
    private static void counted(Run x, int finding, String name, Object... args) {
        int slot = -20 - finding;
        long all = x.answer("fails", 0);
        long own = x.answer("fails", slot);
        x.due(finding, name, args).due(all + 1, "fails", 0).due(own + 1, "fails", slot);
    }

    private static void findingsByThemselves() {
        says("FINDINGS (answers below 0 of what is met): NOTHING -21, CAST -22, OUT -23, KIND -24, SIZE -25, TROUBLE -26, FAR -27.",
            "Each that a call answers is counted.");
        Run x = new Run();
        x.done("part", 1);
        x.done("part", 7);
        x.done("row", 6, 1);
        x.done("part", 5);
        x.done("list");
        x.done("plain", 0);
        x.done("lock", 1, true);
        x.done("hold", 3, 5, 0, 3);
        counted(x, SIZE, "row", 0, -1);
        counted(x, SIZE, "array", 0, -1);
        counted(x, KIND, "copy", 0);
        counted(x, KIND, "length", 0);
        counted(x, KIND, "get", 0, 0, 0);
        counted(x, OUT, "get", 2, 1, 0);
        counted(x, KIND, "get", 2, 0, 0);
        counted(x, KIND, "put", 0, 0, 0, 0);
        counted(x, OUT, "put", 2, 1, 0, 0);
        counted(x, KIND, "put", 2, 0, 0, 0);
        counted(x, CAST, "hold", 2, 0, 0, 0);
        counted(x, CAST, "hold", 3, 5, 0, 2);
        counted(x, CAST, "held", 2, 0, 0);
        counted(x, CAST, "push", 0, 0);
        counted(x, CAST, "entry", 0, 0);
        counted(x, OUT, "entry", 4, 0);
        counted(x, CAST, "key", 0, 0, 0);
        counted(x, CAST, "keyed", 0, 0);
        counted(x, CAST, "lock", 0, true);
        counted(x, CAST, "ask", 2, 0);
        counted(x, CAST, "ask", 2, 1);
        counted(x, CAST, "ask", 1, 2);
        counted(x, NOTHING, "ask", 0, 0);
        counted(x, NOTHING, "ask", 0, 2);
        counted(x, TROUBLE, "ask", 1, 0);
        counted(x, FAR, "ask", 3, 0);
        x.done("hold", 0, 1, 0, 5);
        counted(x, KIND, "ask", 0, 0);
        counted(x, CAST, "find", 2, 0, 0);
        x.done("hold", 0, 1, 0, 2);
        x.due(1, "find", 0, 0, 0);
        counted(x, KIND, "set", 0, 0);
        counted(x, KIND, "each", 0, 0, 0);
        counted(x, KIND, "sum", 0, 3);
        counted(x, KIND, "sum", 0, 5);
        int[] byKind = {2, 12, 3, 11, 2, 1, 1};
        int all = 0;
        for (int what = 1; what < 8; what++) {
            x.due(byKind[what - 1], "fails", what);
            all += byKind[what - 1];
        }
        x.due(all, "fails", 0);
    }

    private static void refusalsAreNone() {
        says("REFUSALS: UNKNOWN -101 (a number of no THING), BAD -102 (not as told), FULL -103, STATE -104.");
        Run x = new Run();
        x.done("part", 1);
        x.done("row", 0, 1);
        x.done("list");
        x.done("map");
        for (int n = 0; n < 12; n++) {
            x.done("push", 2, -1);
        }
        for (int k = 0; k < 8; k++) {
            x.done("key", 3, k, 0);
        }
        x.done("hold", 0, 1, 0, 1);
        x.done("mark", 1, 0, 5);
        x.due(1, "find", 0, 0, 0).due(STATE, "set", 0, 1).due(STATE, "each", 0, 0, 0);
        x.due(UNKNOWN, "kind", 4).due(UNKNOWN, "find", 4, 0, 0).due(UNKNOWN, "set", 0, 4).due(BAD, "row", 8, 0);
        x.due(BAD, "at", 1, 0).due(BAD, "find", 0, 5, 0).due(FULL, "push", 2, 0).due(FULL, "key", 3, 8, 0);
        for (int what = 0; what < 8; what++) {
            x.due(0, "fails", what);
        }
    }

    private static void thrownAreNone() {
        says("How many FINDINGS calls answered");
        Run x = new Run();
        x.done("array", 1, 1);
        x.done("part", 5);
        x.thrown(CAST_THROWN, "take", 0, 0).thrown(CAST_THROWN, "lay", 1, 0, -1).thrown(CAST_THROWN, "lay", 0, 0, 0);
        x.thrown(INDEX_THROWN, "lay", 0, 1, -1).thrown(STORE_THROWN, "lay", 0, 0, 1).thrown(CAST_THROWN, "spot", 1, 0);
        x.thrown(INDEX_THROWN, "spot", 0, 1);
        for (int what = 0; what < 8; what++) {
            x.due(0, "fails", what);
        }
    }

    /** What tells an ITEM or a PLAIN is no FINDING, though it be as one. */
    private static void wordsAreNone() {
        says("FINDINGS (answers below 0 of what is met)");
        Run x = new Run();
        x.done("part", 1);
        x.done("row", 3, 1);
        x.done("hold", 0, 1, 0, 1);
        x.due(1, "find", 0, 0, 0);
        for (int word = FAR; word <= NOTHING; word++) {
            int plain = x.done("plain", word);
            x.due(word, "about", plain).due(1, "put", 1, 0, 3, word).due(word, "get", 1, 0, 3).due(word, "sum", 0, 3);
        }
        x.due(NONE, "held", 0, 0, 0).due(NONE, "meter", 7);
        for (int what = 0; what < 8; what++) {
            x.due(0, "fails", what);
        }
    }

    private static void failsRefusals() {
        says("How many FINDINGS calls answered: 0 all, 1 .. 7 NOTHING to FAR. BAD.");
        Run x = new Run();
        for (int what : outside(0, 7)) {
            x.due(BAD, "fails", what);
        }
        x.due(0, "fails", 0).due(0, "fails", 7);
    }

    private static void countRefusals() {
        says("How many: 0 THINGS, 1 PARAMETERS, 2 findings that began, 3 ROWS KEPT. BAD.");
        Run x = new Run();
        for (int what : outside(0, 3)) {
            x.due(BAD, "count", what);
        }
        x.due(0, "count", 0).due(0, "count", 3).due(0, "fails", 0);
    }

    private static void countsOfFindings() {
        says("2 findings that began");
        Run x = new Run();
        x.done("part", 7);
        x.done("row", 0, 1);
        x.due(UNKNOWN, "find", 2, 0, 0).due(UNKNOWN, "find", -1, 0, 0).due(BAD, "find", 0, 5, 0).due(BAD, "find", 0, -1, 0);
        x.due(CAST, "find", 1, 0, 0).due(0, "count", 2);
        for (int n = 1; n <= 100; n++) {
            x.due(0, "find", 0, 0, 0).due(n, "count", 2);
        }
        x.due(0, "lock", 0, true).due(100, "count", 2).due(0, "count", 1);
    }

    private static void countsOfKept() {
        says("1 PARAMETERS, 2 findings that began, 3 ROWS KEPT");
        Run x = new Run();
        x.done("part", 1);
        x.done("row", 0, 1);
        x.done("hold", 0, 1, 0, 1);
        x.due(1, "find", 0, 0, 0).due(0, "count", 3).due(1, "keep").due(1, "count", 3).due(1, "count", 1);
        x.done("mark", 0, 0, 0);
        x.due(0, "count", 1).due(1, "count", 3).due(1, "back").due(1, "count", 3).due(0, "keep").due(0, "count", 3);
        x.due(2, "count", 0).due(1, "count", 2);
    }

    /** Up to its last call an object counts on, and answers as ever. */
    private static void fiveHundredAndTwelveCalls() {
        says("An object is used for at most 512 calls after it has been made");
        Run finds = new Run();
        finds.done("part", 7);
        Run fails = new Run();
        fails.done("part", 7);
        for (int n = 0; n < 510; n++) {
            finds.due(0, "find", 0, 0, 0);
            fails.due(KIND, "length", 0);
        }
        finds.due(510, "count", 2);
        fails.due(510, "fails", 4);
        Run last = new Run();
        last.done("part", 1);
        last.done("row", 3, 1);
        last.done("hold", 0, 1, 0, 1);
        last.done("find", 0, 0, 0);
        for (int n = 0; n < 507; n++) {
            last.due(1, "each", 0, 0, 1);
        }
        last.due(507, "sum", 0, 3);
    }
}
