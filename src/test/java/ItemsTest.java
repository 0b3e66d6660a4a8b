/** Promises 12 and 13: ITEMS read and written as LANES that WIDEN. */
public final class ItemsTest {
    private static final String[] WIDENS = {
        "012345", "12345", "2345", "345", "45", "5", "6", "72345"};

    public static void main(String[] args) {
        widening();
        lowestBits();
        floatsAndDoubles();
        refusals();
        Due.end();
    }

    private static boolean widens(int from, int to) {
        return WIDENS[from].indexOf('0' + to) >= 0;
    }

    private static void widening() {
        for (int from = 0; from < 8; from++) {
            for (int to = 0; to < 8; to++) {
                ParameterFind x = new ParameterFind();
                x.row(from, 1);
                x.row(to, 1);
                x.put(0, 0, from, 1);
                boolean real = to == 4 || to == 5;
                boolean realToo = from == 4 || from == 5;
                long word = real && !realToo ? 4 : 1;
                String lanes = from + " as " + to;
                Due.due("12: " + lanes, x.get(0, 0, to), widens(from, to) ? word : -24);
                Due.due("13: " + lanes, x.put(1, 0, from, 1), widens(from, to) ? 1 : -24);
                Due.due("13: item, " + lanes, x.get(1, 0, to), widens(from, to) ? word : 0);
                Due.due("12, 13: fails(4)", x.fails(4), widens(from, to) ? 0 : 2);
            }
        }
    }

    private static long made(int lane, long v) {
        ParameterFind x = new ParameterFind();
        x.row(lane, 3);
        Due.due("13: put in lane " + lane, x.put(0, 1, lane, v), 1);
        Due.due("13: the ITEM before", x.get(0, 0, lane), 0);
        Due.due("13: the ITEM behind", x.get(0, 2, lane), 0);
        return x.get(0, 1, lane);
    }

    private static void lowestBits() {
        Due.due("13: byte 127", made(0, 127), 127);
        Due.due("13: byte 128", made(0, 128), -128);
        Due.due("13: byte min", made(0, Long.MIN_VALUE), 0);
        Due.due("13: short 32768", made(1, 32768), -32768);
        Due.due("13: short -32769", made(1, -32769), 32767);
        Due.due("13: int 2^31", made(2, 1L << 31), Integer.MIN_VALUE);
        Due.due("13: int 2^32 + 5", made(2, (1L << 32) + 5), 5);
        Due.due("13: long min", made(3, Long.MIN_VALUE), Long.MIN_VALUE);
        Due.due("13: tick 2", made(6, 2), 0);
        Due.due("13: tick 3", made(6, 3), 1);
        Due.due("13: tick -1", made(6, -1), 1);
        Due.due("13: stamp -1", made(7, -1), 65535);
        Due.due("13: stamp 65536", made(7, 65536), 0);
    }

    private static void floatsAndDoubles() {
        Due.due("13: float 7", made(4, 7), 7);
        Due.due("13: float 2^24 + 1, the nearest", made(4, 16777217), 16777216);
        Due.due("13: float 2^24 + 3, the nearest", made(4, 16777219), 16777220);
        Due.due("13: float 4000000000", made(4, 4000000000L), 4000000000L);
        Due.due("13: float 3999999999", made(4, 3999999999L), 4000000000L);
        Due.due("13: double -4000000000", made(5, -4000000000L), -4000000000L);
        Due.due("13: double 3999999999", made(5, 3999999999L), 3999999999L);
        Due.due("13: double -1", made(5, -1), -1);

        ParameterFind x = new ParameterFind();
        x.row(3, 1);
        x.row(4, 1);
        x.row(5, 1);
        x.put(0, 0, 3, 16777217);
        Due.due("12: long as float, the nearest", x.get(0, 0, 4), 67108864);
        Due.due("12: long as double", x.get(0, 0, 5), 67108868);
        x.put(0, 0, 3, 9007199254740993L);
        Due.due("12: long as double, the nearest", x.get(0, 0, 5), 36028797018963968L);
        x.put(0, 0, 3, Long.MIN_VALUE);
        Due.due("12: a WORD ends where longs do", x.get(0, 0, 5), Long.MIN_VALUE);
        x.put(1, 0, 3, 16777217);
        Due.due("13: long into floats, the nearest", x.get(1, 0, 5), 67108864);
        x.put(1, 0, 2, 16777217);
        Due.due("13: int into floats, the nearest", x.get(1, 0, 5), 67108864);
        x.put(2, 0, 4, 16777217);
        Due.due("13: a float first, then a double", x.get(2, 0, 5), 16777216);
        x.put(2, 0, 2, (1L << 32) - 1);
        Due.due("13: the lowest bits first, then a double", x.get(2, 0, 5), -4);
        x.put(2, 0, 0, 255);
        Due.due("13: a byte first, then a double", x.get(2, 0, 5), -4);
        x.put(2, 0, 7, 65537);
        Due.due("13: a stamp first, then a double", x.get(2, 0, 5), 4);
        x.put(2, 0, 3, Long.MAX_VALUE);
        Due.due("13: a long beyond what WORDS of doubles tell", x.get(2, 0, 5), Long.MAX_VALUE);
    }

    private static void refusals() {
        ParameterFind x = new ParameterFind();
        x.row(5, 2);
        x.part(1);
        Due.due("12: UNKNOWN before BAD", x.get(2, 0, 9), -101);
        Due.due("12: UNKNOWN", x.get(-1, 0, 0), -101);
        Due.due("12: BAD before KIND", x.get(1, 0, 8), -102);
        Due.due("12: BAD", x.get(0, 0, -1), -102);
        Due.due("12: KIND, no ROW, before OUT", x.get(1, -1, 5), -24);
        Due.due("12: OUT before KIND", x.get(0, 2, 0), -23);
        Due.due("12: OUT", x.get(0, -1, 5), -23);
        Due.due("12: OUT", x.get(0, Integer.MIN_VALUE, 5), -23);
        Due.due("13: UNKNOWN before BAD", x.put(2, 0, 9, 0), -101);
        Due.due("13: BAD (as) before KIND", x.put(1, 0, 8, 0), -102);
        Due.due("13: BAD (v) before KIND", x.put(1, 0, 5, 4000000001L), -102);
        Due.due("13: BAD (v) before OUT", x.put(0, 2, 4, -4000000001L), -102);
        Due.due("13: BAD (v)", x.put(0, 0, 4, Long.MAX_VALUE), -102);
        Due.due("13: BAD (v)", x.put(0, 0, 5, Long.MIN_VALUE), -102);
        Due.due("13: KIND, no ROW, before OUT", x.put(1, -1, 5, 0), -24);
        Due.due("13: OUT before KIND", x.put(0, 2, 6, 0), -23);
        Due.due("13: OUT", x.put(0, -1, 5, 0), -23);
        Due.due("13: KIND", x.put(0, 0, 6, 1), -24);
        Due.due("13: nothing has changed", x.get(0, 0, 5), 0);
        Due.due("37: OUT", x.fails(3), 5);
        Due.due("37: KIND", x.fails(4), 3);
        Due.due("37: all", x.fails(0), 8);
        x.row(3, 1);
        x.put(2, 0, 3, -24);
        Due.due("12: a WORD as a FINDING", x.get(2, 0, 3), -24);
        Due.due("37: is none", x.fails(4), 3);
    }
}
