/** Promises 14 and 15: what goes as which VIEW. */
public final class ViewsTest {
    /** THINGS 0 .. 7 ROWS by lane, 8 .. 15 ARRAYS by sort, 16 PLAIN, 17 .. 23 PARTS of class 1 .. 7, 24 LIST, 25 MAP. */
    private static final int[][] GOES = {
        {0}, {1}, {2}, {3}, {4}, {5}, {6}, {7},
        {8, 9, 10, 11, 12}, {9, 10, 11}, {10}, {11}, {12}, {13}, {14}, {15},
        {17, 18, 19, 20, 21, 22, 23}, {17, 18, 19, 20}, {18, 19}, {19}, {20}, {21, 22}, {22}, {23},
        {17, 18, 19, 20, 21, 22}, {9, 10, 11, 12}, {16}, {24}, {25}};

    public static void main(String[] args) {
        for (int view = 0; view < GOES.length; view++) {
            // an object for each VIEW: none is promised to answer more than 512 calls
            ParameterFind x = things();
            for (int t = 0; t < 26; t++) {
                oneView(x, t, view, contains(GOES[view], t));
            }
            Due.due("37: what is thrown is no FINDING", x.fails(0), 0);
        }
        refusals(things());
        Due.end();
    }

    private static void refusals(ParameterFind x) {
        Due.due("14: UNKNOWN before BAD", x.is(26, 29), -101);
        Due.due("14: UNKNOWN", x.is(-1, 0), -101);
        Due.due("14: BAD", x.is(0, 29), -102);
        Due.due("14: BAD", x.is(0, -1), -102);
        Due.due("15: UNKNOWN before BAD", x.take(26, 29), -101);
        Due.due("15: UNKNOWN", x.take(-1, 0), -101);
        Due.due("15: BAD", x.take(0, 29), -102);
        Due.due("15: BAD", x.take(0, Integer.MIN_VALUE), -102);
    }

    private static void oneView(ParameterFind x, int t, int view, boolean goes) {
        String call = "(" + t + ", " + view + ")";
        Due.due("14: is" + call, x.is(t, view), goes ? 1 : 0);
        if (goes) {
            Due.due("15: take" + call, x.take(t, view), x.kind(t));
        } else {
            Due.thrown("15: take" + call, ClassCastException.class, () -> x.take(t, view));
        }
    }

    private static ParameterFind things() {
        ParameterFind x = new ParameterFind();
        for (int lane = 0; lane < 8; lane++) {
            x.row(lane, 0);
        }
        for (int sort = 0; sort < 8; sort++) {
            x.array(sort, 0);
        }
        x.plain(0);
        for (int cls = 1; cls < 8; cls++) {
            x.part(cls);
        }
        x.list();
        x.map();
        return x;
    }

    private static boolean contains(int[] row, int t) {
        for (int each : row) {
            if (each == t) {
                return true;
            }
        }
        return false;
    }
}
