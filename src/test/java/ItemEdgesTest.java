/** The boundary cases of ITEMS: WORDS, what they make, which LANES WIDEN; promises 12 and 13. */
public final class ItemEdgesTest extends Due {
    private static final int BYTES = 0, SHORTS = 1, INTS = 2, LONGS = 3, FLOATS = 4, DOUBLES = 5, TICKS = 6, STAMPS = 7;
    private static final long LIMIT = 4000000000L;
    private static final String[] WIDENS = {"012345", "12345", "2345", "345", "45", "5", "6", "72345"};
    private static final long[] LEAST = {-128, -32768, MIN, Long.MIN_VALUE, 0, 0, 0, 0};
    private static final long[] MOST = {127, 32767, MAX, Long.MAX_VALUE, 0, 0, 1, 65535};

    public static void main(String[] args) {
        lowestBits();
        lowestBit();
        limitOfReals();
        nearestFloats();
        wordsOfReals();
        wideningByGet();
        wideningByPut();
        wideningToNearest();
        bitsBeforeWidening();
        firstAndLastItem();
        noSuchLane();
        noRow();
        unknown();
        end();
    }

    /** What a WORD makes in a LANE, read in the same LANE. */
    private static void makes(int lane, long v, long want) {
        new Run().due(0, "row", lane, 1).due(1, "put", 0, 0, lane, v).due(want, "get", 0, 0, lane);
    }

    private static void lowestBits() {
        says("A WORD tells an ITEM: a whole number itself, a tick 1 or 0, a stamp 0 .. 65535",
            "What a WORD v makes: of whole ones and stamps the lowest bits, as many as they have");
        int[] lanes = {BYTES, SHORTS, INTS, LONGS, STAMPS};
        for (int lane : lanes) {
            makes(lane, LEAST[lane], LEAST[lane]);
            makes(lane, MOST[lane], MOST[lane]);
            makes(lane, MOST[lane] + 1, LEAST[lane]);
            makes(lane, LEAST[lane] - 1, MOST[lane]);
            makes(lane, 0, 0);
            makes(lane, 1, 1);
        }
        int[] signed = {BYTES, SHORTS, INTS, LONGS};
        for (int lane : signed) {
            makes(lane, -1, -1);
        }
        makes(STAMPS, -1, 65535);
        makes(STAMPS, 32768, 32768);
        makes(BYTES, 255, -1);
        makes(BYTES, 256, 0);
        makes(BYTES, Long.MAX_VALUE, -1);
        makes(BYTES, Long.MIN_VALUE, 0);
        makes(SHORTS, 65535, -1);
        makes(SHORTS, 65536, 0);
        makes(SHORTS, Long.MIN_VALUE + 32767, 32767);
        makes(INTS, 4294967295L, -1);
        makes(INTS, 4294967296L, 0);
        makes(INTS, Long.MAX_VALUE, -1);
        makes(STAMPS, 65537, 1);
        makes(STAMPS, Long.MAX_VALUE, 65535);
        makes(STAMPS, Long.MIN_VALUE, 0);
        makes(LONGS, LIMIT + 1, LIMIT + 1);
    }

    private static void lowestBit() {
        says("of a tick the lowest bit");
        long[] ones = {1, 3, -1, -3, 255, Long.MAX_VALUE};
        long[] noughts = {0, 2, -2, 256, LIMIT, Long.MIN_VALUE};
        for (long v : ones) {
            makes(TICKS, v, 1);
        }
        for (long v : noughts) {
            makes(TICKS, v, 0);
        }
    }

    private static void limitOfReals() {
        says("of floats and doubles (v is -4000000000 .. 4000000000 then) v / 4.0");
        long[] beyond = {LIMIT + 1, -LIMIT - 1, 2 * LIMIT, 4294967296L, -4294967296L, Long.MAX_VALUE, Long.MIN_VALUE};
        int[][] lanes = {{FLOATS, FLOATS}, {DOUBLES, FLOATS}, {DOUBLES, DOUBLES}};
        for (int[] pair : lanes) {
            Run x = new Run();
            x.done("row", pair[0], 1);
            x.due(1, "put", 0, 0, pair[1], LIMIT).due(LIMIT, "get", 0, 0, pair[0]);
            for (long v : beyond) {
                x.due(BAD, "put", 0, 0, pair[1], v);
            }
            x.due(LIMIT, "get", 0, 0, pair[0]);
            x.due(1, "put", 0, 0, pair[1], -LIMIT).due(-LIMIT, "get", 0, 0, pair[0]).due(0, "fails", 0);
        }
        makes(DOUBLES, LIMIT - 1, LIMIT - 1);
        makes(DOUBLES, 1 - LIMIT, 1 - LIMIT);
        makes(DOUBLES, 1, 1);
        makes(DOUBLES, -3, -3);
        says("a float or a double four times it");
        Run y = new Run();
        y.done("row", DOUBLES, 1);
        y.due(1, "put", 0, 0, INTS, 5).due(20, "get", 0, 0, DOUBLES);
        y.due(1, "put", 0, 0, DOUBLES, 5).due(5, "get", 0, 0, DOUBLES);
        says("BAD (as, v)");
        int[] others = {BYTES, SHORTS, INTS, LONGS, STAMPS};
        for (int as : others) {
            Run z = new Run();
            z.done("row", DOUBLES, 1);
            z.due(1, "put", 0, 0, as, LIMIT + 1).due(1, "put", 0, 0, as, Long.MIN_VALUE);
        }
    }

    private static void nearestFloats() {
        says("for a float the nearest one");
        long two24 = 1L << 24;
        makes(FLOATS, two24 - 1, two24 - 1);
        makes(FLOATS, two24, two24);
        makes(FLOATS, two24 + 1, two24);
        makes(FLOATS, two24 + 2, two24 + 2);
        makes(FLOATS, two24 + 3, two24 + 4);
        makes(FLOATS, -two24 - 1, -two24);
        makes(FLOATS, -two24 - 3, -two24 - 4);
        makes(FLOATS, LIMIT - 1, LIMIT);
        makes(FLOATS, LIMIT - 128, LIMIT);
        makes(FLOATS, LIMIT - 129, LIMIT - 256);
        makes(FLOATS, 1 - LIMIT, -LIMIT);
        makes(FLOATS, 129 - LIMIT, 256 - LIMIT);
        makes(DOUBLES, two24 + 1, two24 + 1);
    }

    /** A double, and a float, put in as a long, and the WORD that tells it. */
    private static void wordsOfReals() {
        says("four times it, as Java's (long) has it of a double");
        long two61 = 1L << 61;
        Run x = new Run();
        x.done("row", DOUBLES, 1);
        x.done("row", FLOATS, 1);
        x.done("put", 0, 0, LONGS, two61 - 256);
        x.due(Long.MAX_VALUE - 1023, "get", 0, 0, DOUBLES);
        x.done("put", 0, 0, LONGS, two61);
        x.due(Long.MAX_VALUE, "get", 0, 0, DOUBLES);
        x.done("put", 0, 0, LONGS, Long.MAX_VALUE);
        x.due(Long.MAX_VALUE, "get", 0, 0, DOUBLES);
        x.done("put", 0, 0, LONGS, -two61 + 256);
        x.due(Long.MIN_VALUE + 1024, "get", 0, 0, DOUBLES);
        x.done("put", 0, 0, LONGS, -two61);
        x.due(Long.MIN_VALUE, "get", 0, 0, DOUBLES);
        x.done("put", 0, 0, LONGS, Long.MIN_VALUE);
        x.due(Long.MIN_VALUE, "get", 0, 0, DOUBLES);
        x.done("put", 1, 0, LONGS, two61 - (1L << 37));
        x.due(Long.MAX_VALUE - (1L << 39) + 1, "get", 1, 0, FLOATS);
        x.due(Long.MAX_VALUE - (1L << 39) + 1, "get", 1, 0, DOUBLES);
        x.done("put", 1, 0, LONGS, two61);
        x.due(Long.MAX_VALUE, "get", 1, 0, FLOATS).due(Long.MAX_VALUE, "get", 1, 0, DOUBLES);
        x.done("put", 1, 0, LONGS, Long.MIN_VALUE);
        x.due(Long.MIN_VALUE, "get", 1, 0, FLOATS);
        x.done("row", LONGS, 1);
        x.done("put", 2, 0, LONGS, two61);
        x.due(Long.MAX_VALUE, "get", 2, 0, FLOATS).due(Long.MAX_VALUE, "get", 2, 0, DOUBLES);
        x.due(two61, "get", 2, 0, LONGS);
        x.done("put", 2, 0, LONGS, -two61 - 1024);
        x.due(Long.MIN_VALUE, "get", 2, 0, DOUBLES);
    }

    private static boolean widens(int from, int to) {
        return WIDENS[from].indexOf('0' + to) >= 0;
    }

    private static boolean isReal(int lane) {
        return lane == FLOATS || lane == DOUBLES;
    }

    /** A WORD of a LANE as a WORD of another that it WIDENS to, of numbers small enough to stay the same. */
    private static long wordAs(int from, int to, long word) {
        return isReal(to) && !isReal(from) ? 4 * word : word;
    }

    private static void wideningByGet() {
        says("A LANE WIDENS to itself; bytes to shorts, ints, longs, floats, doubles",
            "shorts and stamps to ints, longs, floats, doubles; ints to longs, floats, doubles; longs to floats, doubles");
        for (int from = 0; from < 8; from++) {
            for (int to = 0; to < 8; to++) {
                Run x = new Run();
                x.done("row", from, 1);
                long[] words = from < LONGS || from > DOUBLES ? new long[] {LEAST[from], MOST[from]} : new long[] {-7, 7};
                for (long word : words) {
                    x.due(1, "put", 0, 0, from, word);
                    if (from == INTS && to == FLOATS) {
                        x.due(word == MIN ? 4L * MIN : 1L << 33, "get", 0, 0, to);
                    } else {
                        x.due(widens(from, to) ? wordAs(from, to, word) : KIND, "get", 0, 0, to);
                    }
                }
                x.due(widens(from, to) ? 0 : 2, "fails", 4).due(widens(from, to) ? 0 : 2, "fails", 0);
            }
        }
    }

    private static void wideningByPut() {
        says("KIND: that LANE does not WIDEN to the ROW's.");
        for (int from = 0; from < 8; from++) {
            for (int to = 0; to < 8; to++) {
                Run x = new Run();
                x.done("row", to, 2);
                x.done("put", 0, 1, to, 1);
                long word = from == TICKS ? 1 : from == STAMPS ? 65535 : -7;
                boolean widens = widens(from, to);
                x.due(widens ? 1 : KIND, "put", 0, 0, from, word).due(widens ? 1 : KIND, "put", 0, 1, from, word);
                x.due(widens ? wordAs(from, to, word) : 0, "get", 0, 0, to);
                x.due(widens ? wordAs(from, to, word) : 1, "get", 0, 1, to);
                x.due(widens ? 0 : 2, "fails", 4);
            }
        }
    }

    /** A whole number, and the WORDS of the nearest float and double. */
    private static void nearest(long whole, long floatWord, long doubleWord) {
        Run x = new Run();
        x.done("row", LONGS, 1);
        x.done("row", FLOATS, 1);
        x.done("row", DOUBLES, 1);
        x.done("put", 0, 0, LONGS, whole);
        x.due(floatWord, "get", 0, 0, FLOATS).due(doubleWord, "get", 0, 0, DOUBLES).due(whole, "get", 0, 0, LONGS);
        x.due(1, "put", 1, 0, LONGS, whole).due(floatWord, "get", 1, 0, FLOATS).due(floatWord, "get", 1, 0, DOUBLES);
        x.due(1, "put", 2, 0, LONGS, whole).due(doubleWord, "get", 2, 0, DOUBLES);
        if (whole == (int) whole) {
            x.done("row", INTS, 1);
            x.done("put", 3, 0, INTS, whole);
            x.due(floatWord, "get", 3, 0, FLOATS).due(doubleWord, "get", 3, 0, DOUBLES);
            x.due(1, "put", 1, 0, INTS, whole).due(floatWord, "get", 1, 0, FLOATS);
            x.due(1, "put", 2, 0, INTS, whole).due(doubleWord, "get", 2, 0, DOUBLES);
        }
    }

    private static void wideningToNearest() {
        says("the same number, among floats and doubles the nearest one");
        long two24 = 1L << 24;
        nearest(two24, 4 * two24, 4 * two24);
        nearest(two24 + 1, 4 * two24, 4 * (two24 + 1));
        nearest(two24 + 3, 4 * (two24 + 4), 4 * (two24 + 3));
        nearest(-two24 - 1, -4 * two24, -4 * (two24 + 1));
        nearest(MAX, 1L << 33, 4L * MAX);
        nearest(MIN, 4L * MIN, 4L * MIN);
        long two53 = 1L << 53;
        nearest(two53, 4 * two53, 4 * two53);
        nearest(two53 + 1, 4 * two53, 4 * two53);
        nearest(two53 + 3, 4 * two53, 4 * (two53 + 4));
        nearest(-two53 - 1, -4 * two53, -4 * two53);
        // halfway between two floats and a little more: a double on the way would lose the little
        long two60 = 1L << 60;
        nearest(two60 + (1L << 36) + 1, 4 * (two60 + (1L << 37)), 4 * (two60 + (1L << 36)));
        nearest(two60 + (1L << 36), 4 * two60, 4 * (two60 + (1L << 36)));
        nearest(-two60 - (1L << 36) - 1, -4 * (two60 + (1L << 37)), -4 * (two60 + (1L << 36)));
        says("floats to doubles");
        Run x = new Run();
        x.done("row", FLOATS, 1);
        x.done("row", DOUBLES, 1);
        x.due(1, "put", 0, 0, FLOATS, two24 + 1).due(two24, "get", 0, 0, DOUBLES);
        x.due(1, "put", 1, 0, FLOATS, two24 + 1).due(two24, "get", 1, 0, DOUBLES);
        x.due(1, "put", 1, 0, FLOATS, two24 + 3).due(two24 + 4, "get", 1, 0, DOUBLES);
        x.due(KIND, "put", 0, 0, DOUBLES, 1).due(two24, "get", 0, 0, FLOATS).due(KIND, "get", 1, 0, FLOATS);
    }

    private static void bitsBeforeWidening() {
        says("What a WORD makes in a LANE becomes, WIDENED, ITEM i of a ROW: 1.");
        int[][] lanes = {
            {BYTES, SHORTS}, {BYTES, INTS}, {BYTES, LONGS}, {BYTES, FLOATS}, {BYTES, DOUBLES}, {SHORTS, INTS},
            {SHORTS, LONGS}, {SHORTS, FLOATS}, {SHORTS, DOUBLES}, {STAMPS, INTS}, {STAMPS, LONGS}, {STAMPS, FLOATS},
            {STAMPS, DOUBLES}, {INTS, LONGS}, {INTS, DOUBLES}};
        for (int[] pair : lanes) {
            int as = pair[0];
            int lane = pair[1];
            Run x = new Run();
            x.done("row", lane, 1);
            x.due(1, "put", 0, 0, as, MOST[as]).due(wordAs(as, lane, MOST[as]), "get", 0, 0, lane);
            x.due(1, "put", 0, 0, as, MOST[as] + 1).due(wordAs(as, lane, LEAST[as]), "get", 0, 0, lane);
            x.due(1, "put", 0, 0, as, LEAST[as]).due(wordAs(as, lane, LEAST[as]), "get", 0, 0, lane);
            x.due(1, "put", 0, 0, as, LEAST[as] - 1).due(wordAs(as, lane, MOST[as]), "get", 0, 0, lane);
        }
    }

    private static void firstAndLastItem() {
        says("ITEM i of a ROW read AS a LANE: its WORD there.");
        for (int lane = 0; lane < 8; lane++) {
            Run x = new Run();
            x.done("row", lane, 24);
            for (int i = 23; i >= 0; i--) {
                x.due(1, "put", 0, i, lane, i);
            }
            for (int i = 0; i < 24; i++) {
                x.due(lane == TICKS ? i % 2 : i, "get", 0, i, lane);
            }
            says("KIND: no ROW; OUT;");
            int[] beside = outside(0, 23);
            for (int i : beside) {
                x.due(OUT, "get", 0, i, lane).due(OUT, "put", 0, i, lane, 1);
            }
            x.due(2 * beside.length, "fails", 3).due(2 * beside.length, "fails", 0);
            x.due(0, "get", 0, 0, lane).due(lane == TICKS ? 1 : 23, "get", 0, 23, lane);
        }
    }

    private static void noSuchLane() {
        says("UNKNOWN, BAD (as), as longs");
        Run x = new Run();
        x.done("row", BYTES, 1);
        for (int as : outside(0, 7)) {
            x.due(BAD, "get", 0, 0, as).due(BAD, "put", 0, 0, as, 0);
        }
        x.due(0, "fails", 0).due(0, "get", 0, 0, BYTES);
    }

    private static void noRow() {
        says("KIND: no ROW");
        Run x = new Run();
        x.done("array", 5, 1);
        x.done("list");
        x.done("map");
        x.done("part", 1);
        x.done("plain", 0);
        for (int t = 0; t < 5; t++) {
            x.due(KIND, "get", t, 0, 3).due(KIND, "put", t, 0, 3, 1).due(2 * t + 2, "fails", 4);
        }
    }

    private static void unknown() {
        says("UNKNOWN, BAD (as, v)");
        Run x = new Run();
        x.done("row", LONGS, 1);
        x.done("row", LONGS, 1);
        for (int t : outside(0, 1)) {
            x.due(UNKNOWN, "get", t, 0, LONGS).due(UNKNOWN, "put", t, 0, LONGS, 1);
        }
        x.due(0, "fails", 0);
        says("as longs");
        long[] words = {UNKNOWN, BAD, KIND, OUT, NOTHING, FAR};
        for (long word : words) {
            x.due(1, "put", 0, 0, LONGS, word).due(word, "get", 0, 0, LONGS);
        }
        x.due(0, "fails", 0);
    }
}
