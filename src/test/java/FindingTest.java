/** Promises 27 to 31: what a finding meets, its PARAMETERS, their PATHS and THE METER. */
public final class FindingTest {
    public static void main(String[] args) {
        order();
        paths();
        again();
        rules();
        marked();
        shut();
        full();
        gone();
        refusals();
        under();
        deepest();
        widest();
        Due.end();
    }

    private static void meters(String what, ParameterFind x, int... want) {
        for (int i = 0; i < want.length; i++) {
            Due.due("31: " + what + ", meter(" + i + ")", x.meter(i), want[i]);
        }
    }

    private static void parameters(String what, ParameterFind x, int... things) {
        Due.due("38: " + what + ", count(1)", x.count(1), things.length);
        for (int i = 0; i < things.length; i++) {
            Due.due("28: " + what + ", at(" + i + ", 0)", x.at(i, 0), things[i]);
        }
        Due.due("28: " + what + ", no more", x.at(things.length, 0), -102);
    }

    private static void path(ParameterFind x, int i, int... steps) {
        Due.due("28: STEPS", x.at(i, 4), steps.length / 2);
        for (int k = 0; k < steps.length / 2; k++) {
            Due.due("29: step(" + i + ", " + k + ", 0)", x.step(i, k, 0), steps[2 * k]);
            Due.due("29: step(" + i + ", " + k + ", 1)", x.step(i, k, 1), steps[2 * k + 1]);
        }
        Due.due("29: no more", x.step(i, steps.length / 2, 0), -102);
    }

    /** Parents first, and what a FIELD holds before the next FIELD. */
    private static void order() {
        ParameterFind x = new ParameterFind();
        x.part(3);
        for (int lane = 0; lane < 8; lane++) {
            x.row(lane == 1 ? 5 : lane, 2);
        }
        x.hold(0, 3, 0, 1);
        x.hold(0, 2, 1, 3);
        x.hold(0, 2, 0, 2);
        x.hold(0, 1, 0, 4);
        x.part(4);
        x.hold(0, 0, 0, 9);
        x.hold(9, 4, 1, 6);
        x.hold(9, 4, 0, 5);
        x.hold(9, 0, 0, 7);
        x.part(1);
        x.hold(0, 3, 1, 10);
        x.hold(10, 1, 0, 8);
        Due.due("27: find", x.find(0, 0, 0), 8);
        parameters("order", x, 7, 5, 6, 4, 2, 3, 1, 8);
        meters("order", x, 3, 2, 0, 0, 0, 0, 0, -1);
        Due.due("28: LANE", x.at(4, 1), 5);
        Due.due("28: ITEMS", x.at(4, 2), 2);
        path(x, 0, 0, 0, 0, 0);
        path(x, 1, 0, 0, 0, 40);
        path(x, 2, 0, 0, 0, 41);
        path(x, 3, 0, 10);
        path(x, 4, 0, 20);
        path(x, 5, 0, 21);
        path(x, 6, 0, 30);
        path(x, 7, 0, 31, 0, 10);
    }

    private static void paths() {
        ParameterFind x = new ParameterFind();
        x.part(6);
        x.map();
        x.list();
        x.array(5, 3);
        x.row(5, 1);
        x.row(2, 1);
        x.row(0, 1);
        x.row(0, 1);
        x.plain(3);
        x.hold(0, 0, 0, 1);
        x.key(1, 700, 2);
        x.key(1, 20, 5);
        x.key(1, 999, 6);
        x.key(1, 300, 8);
        x.push(2, -1);
        x.push(2, 8);
        x.push(2, 3);
        x.push(2, 7);
        x.lay(3, 2, 4);
        x.hold(0, 6, 0, 3);
        Due.due("27: find", x.find(0, 0, 0), 4);
        parameters("paths", x, 5, 4, 7, 6);
        path(x, 0, 0, 0, 3, 20);
        path(x, 1, 0, 0, 3, 700, 2, 2, 1, 2);
        path(x, 2, 0, 0, 3, 700, 2, 3);
        path(x, 3, 0, 0, 3, 999);
        meters("paths", x, 1, 6, 1, 2, 0, 0, 0, -1);
    }

    private static void again() {
        ParameterFind x = new ParameterFind();
        x.part(5);
        x.row(0, 1);
        x.list();
        x.hold(0, 0, 0, 2);
        x.push(2, 1);
        x.push(2, 1);
        x.push(2, 2);
        x.push(2, 0);
        x.push(2, 1);
        x.hold(0, 5, 0, 0);
        Due.due("27: find", x.find(0, 0, 0), 1);
        Due.due("28: how often AGAIN", x.at(0, 5), 2);
        meters("again", x, 1, 1, 5, 0, 0, 0, 0, -1);
        Due.due("27: find once more", x.find(0, 0, 0), 1);
        Due.due("28: counted anew", x.at(0, 5), 2);
        meters("once more", x, 1, 1, 5, 0, 0, 0, 0, -1);
        Due.due("38: count(2)", x.count(2), 2);
    }

    private static void rules() {
        ParameterFind x = new ParameterFind();
        x.part(7);
        x.list();
        x.hold(0, 7, 0, 1);
        for (int lane = 0; lane < 8; lane++) {
            x.push(1, x.row(lane, lane));
        }
        x.push(1, 2);
        Due.due("27: all", x.find(0, 0, 99), 8);
        meters("all", x, 1, 1, 1, 0, 0, 0, 0, -1);
        Due.due("27: floats and doubles", x.find(0, 1, 99), 2);
        parameters("rule 1", x, 6, 7);
        meters("rule 1", x, 1, 1, 0, 0, 7, 0, 0, -1);
        Due.due("27: at least 5", x.find(0, 2, 5), 3);
        parameters("rule 2", x, 7, 8, 9);
        Due.due("27: at least -3", x.find(0, 2, -3), 8);
        Due.due("27: at least 8", x.find(0, 2, 8), 0);
        for (int lane = 0; lane < 8; lane++) {
            Due.due("27: LANE n", x.find(0, 3, lane), 1);
            parameters("rule 3", x, 2 + lane);
            Due.due("27: no ticks, and not LANE n", x.find(0, 4, lane), lane == 6 ? 7 : 6);
        }
        Due.due("27: no such LANE", x.find(0, 3, 8), 0);
        Due.due("27: no such LANE", x.find(0, 3, -1), 0);
        Due.due("27: no ticks", x.find(0, 4, -1), 7);
        parameters("rule 4", x, 2, 3, 4, 5, 6, 7, 9);
        meters("rule 4", x, 1, 1, 1, 0, 1, 0, 0, -1);
    }

    private static void marked() {
        ParameterFind x = new ParameterFind();
        x.part(5);
        x.part(4);
        x.part(1);
        x.row(4, 1);
        x.row(4, 1);
        x.row(4, 1);
        x.hold(0, 5, 0, 1);
        x.hold(0, 5, 1, 2);
        x.hold(1, 4, 0, 3);
        x.hold(1, 1, 0, 4);
        x.hold(2, 1, 0, 3);
        x.hold(2, 0, 0, 5);
        x.mark(5, 0, 1);
        Due.due("27: find", x.find(0, 0, 0), 3);
        parameters("frozen", x, 4, 3, 5);
        Due.due("28: FROZEN further up", x.at(0, 3), 1);
        Due.due("28: as it was met first", x.at(1, 3), 1);
        Due.due("28: not FROZEN", x.at(2, 3), 0);
        x.mark(5, 0, 6);
        Due.due("27: a BUFFER", x.find(0, 0, 0), 2);
        parameters("buffer", x, 5, 3);
        Due.due("28: not FROZEN", x.at(1, 3), 0);
        meters("buffer", x, 2, 1, 0, 0, 0, 1, 0, -1);
        x.mark(5, 0, 4);
        x.mark(0, 0, 2);
        x.mark(1, 0, 1);
        Due.due("27: NOTES passed over", x.find(0, 0, 0), 2);
        parameters("notes", x, 4, 3);
        Due.due("28: the FIELD itself", x.at(0, 3), 1);
        Due.due("28: another FIELD", x.at(1, 3), 0);
        Due.due("28: AGAIN", x.at(1, 5), 1);
        meters("notes", x, 3, 1, 1, 0, 0, 3, 0, -1);
        x.mark(4, 1, 3);
        x.find(0, 0, 0);
        Due.due("31: NOTE of NORM is another FIELD", x.meter(5), 4);
    }

    private static void shut() {
        ParameterFind x = new ParameterFind();
        x.part(5);
        x.part(7);
        x.part(7);
        x.row(0, 1);
        x.hold(0, 5, 0, 1);
        x.hold(0, 5, 1, 2);
        x.hold(1, 7, 0, 3);
        x.hold(2, 0, 0, 3);
        x.lock(1, true);
        x.lock(2, true);
        Due.due("27: find", x.find(0, 0, 0), 1);
        path(x, 0, 0, 51, 0, 0);
        meters("shut", x, 3, 2, 0, 0, 0, 0, 2, 2);
        x.lock(2, false);
        Due.due("31: the METER stays", x.meter(7), 2);
        x.find(0, 0, 0);
        meters("one", x, 3, 3, 0, 0, 0, 0, 1, 1);
        x.mark(7, 0, 2);
        x.find(0, 0, 0);
        meters("a BUFFER first", x, 3, 2, 0, 0, 0, 2, 0, -1);
        x.mark(7, 0, 0);
        x.lock(1, false);
        x.find(1, 0, 0);
        meters("open", x, 1, 1, 0, 0, 0, 0, 0, -1);
    }

    /** 41 ROWS in four LISTS; the 41st behind a PLAIN and a bare ENTRY. */
    private static void full() {
        ParameterFind x = new ParameterFind();
        x.part(1);
        x.list();
        x.hold(0, 0, 0, 1);
        for (int l = 0; l < 4; l++) {
            int list = x.list();
            x.push(1, list);
            for (int n = 0; n < 10; n++) {
                x.push(list, x.row(3, 1));
            }
        }
        Due.due("27: 40", x.find(0, 0, 0), 40);
        Due.due("28: the last", x.at(39, 0), 45);
        Due.due("35: keep", x.keep(), 40);
        x.push(1, x.plain(1));
        x.push(1, -1);
        x.push(1, x.row(5, 2));
        x.push(1, -1);
        Due.due("27: FULL", x.find(0, 0, 0), -103);
        parameters("full", x);
        meters("as it came", x, 1, 1, 0, 1, 0, 0, 0, -1);
        Due.due("38: it began", x.count(2), 2);
        Due.due("38: KEPT still", x.count(3), 40);
        Due.due("37: FULL is no FINDING", x.fails(0), 0);
        Due.due("35: none to keep", x.keep(), 0);
        Due.due("27: a RULE that leaves one", x.find(0, 4, 5), 40);
        meters("left", x, 1, 3, 0, 1, 1, 0, 0, -1);
        x.find(0, 0, 0);
        Due.due("38: FULL again", x.count(1), 0);
    }

    private interface Change {
        long make(ParameterFind x);
    }

    private static void gone() {
        afterwards("hold as before", 0, x -> x.hold(0, 0, 0, 1));
        afterwards("hold, bare as before", 0, x -> x.hold(4, 0, 0, -1));
        afterwards("lay", 0, x -> x.lay(3, 0, -1));
        afterwards("push", 0, x -> x.push(1, -1));
        afterwards("key as before", 0, x -> x.key(2, 7, 5));
        afterwards("key of no such KEY", 0, x -> x.key(2, 8, -1));
        afterwards("mark as before", 0, x -> x.mark(7, 0, 0));
        afterwards("lock as before", 0, x -> x.lock(4, false));
        afterwards("set", 1, x -> x.set(0, 5));
        afterwards("a new THING", 1, x -> x.row(0, 1));
        afterwards("put", 1, x -> x.put(5, 0, 0, 1));
        afterwards("keep, back", 1, x -> x.keep() + x.back());
        afterwards("hold, CAST", 1, x -> x.hold(0, 2, 0, 5));
        afterwards("hold, UNKNOWN", 1, x -> x.hold(0, 0, 0, 9));
        afterwards("lay, Cast", 1, x -> thrown(ClassCastException.class, () -> x.lay(3, 0, 5)));
        afterwards("lay, Index", 1, x -> thrown(ArrayIndexOutOfBoundsException.class, () -> x.lay(3, 1, -1)));
        afterwards("lay, Store", 1, x -> thrown(ArrayStoreException.class, () -> x.lay(3, 0, 4)));
        afterwards("push, CAST", 1, x -> x.push(2, -1));
        afterwards("key, BAD", 1, x -> x.key(2, -1, -1));
        afterwards("mark, BAD", 1, x -> x.mark(7, 0, 8));
        afterwards("lock, CAST", 1, x -> x.lock(0, true));
        afterwards("find, CAST", 1, x -> x.find(1, 0, 0));
        afterwards("find, BAD", 1, x -> x.find(0, 5, 0));
        afterwards("find, UNKNOWN", 1, x -> x.find(-1, 0, 0));
    }

    private static long thrown(Class<?> want, Due.Call call) {
        Due.thrown("18: lay", want, call);
        return 0;
    }

    /** How many PARAMETERS there are after a change: 0 PART, 1 LIST, 2 MAP, 3 ARRAY of LAYERS, 4 VAULT, 5 ROW. */
    private static void afterwards(String what, int want, Change change) {
        ParameterFind x = new ParameterFind();
        x.part(1);
        x.list();
        x.map();
        x.array(1, 1);
        x.part(7);
        x.row(0, 1);
        x.hold(0, 0, 0, 1);
        x.push(1, 2);
        x.key(2, 7, 5);
        Due.due("27: find", x.find(0, 0, 0), 1);
        change.make(x);
        Due.due("38: PARAMETERS after " + what, x.count(1), want);
        Due.due("28: PARAMETER 0 after " + what, x.at(0, 0), want == 1 ? 5 : -102);
        Due.due("38: findings after " + what, x.count(2), 1);
        meters("after " + what, x, 1, 1, 0, 0, 0, 0, 0, -1);
    }

    private static void refusals() {
        ParameterFind x = new ParameterFind();
        x.part(1);
        x.row(6, 3);
        x.hold(0, 1, 0, 1);
        Due.due("27: UNKNOWN before BAD", x.find(2, 5, 0), -101);
        Due.due("27: BAD before CAST", x.find(1, 5, 0), -102);
        Due.due("27: BAD", x.find(0, -1, 0), -102);
        Due.due("27: CAST", x.find(1, 0, 0), -22);
        Due.due("37: CAST", x.fails(2), 1);
        Due.due("38: none began", x.count(2), 0);
        Due.due("27: find", x.find(0, 0, 0), 1);
        Due.due("28: BAD i", x.at(-1, 0), -102);
        Due.due("28: BAD i", x.at(1, 0), -102);
        Due.due("28: BAD what", x.at(0, 6), -102);
        Due.due("28: BAD what", x.at(0, -1), -102);
        Due.due("29: BAD i", x.step(1, 0, 0), -102);
        Due.due("29: BAD k", x.step(0, 1, 0), -102);
        Due.due("29: BAD k", x.step(0, -1, 0), -102);
        Due.due("29: BAD what", x.step(0, 0, 2), -102);
        Due.due("29: BAD what", x.step(0, 0, -1), -102);
        Due.due("30: BAD i", x.under(1, 0, 0), -102);
        Due.due("30: BAD i", x.under(-1, 0, 0), -102);
        Due.due("30: BAD n", x.under(0, -1, 0), -102);
        Due.due("30: BAD n", x.under(0, 2, 0), -102);
        Due.due("30: BAD what", x.under(0, 0, 3), -102);
        Due.due("30: BAD what", x.under(0, 0, -1), -102);
        Due.due("31: BAD", x.meter(8), -102);
        Due.due("31: BAD", x.meter(-1), -102);
        Due.due("37: REFUSALS are no FINDINGS", x.fails(0), 1);
    }

    /** A BLOCK; LEFT a NORM with three ROWS, RIGHT a LIST's ROW in the NOTE of another NORM. */
    private static void under() {
        ParameterFind x = new ParameterFind();
        x.part(5);
        x.part(4);
        x.part(4);
        x.list();
        for (int n = 1; n < 6; n++) {
            x.row(4, n);
        }
        x.hold(0, 5, 0, 1);
        x.hold(0, 5, 1, 2);
        x.hold(1, 1, 0, 4);
        x.hold(1, 4, 0, 5);
        x.hold(1, 4, 1, 6);
        x.hold(2, 4, 1, 3);
        x.push(3, 7);
        x.push(3, 8);
        x.mark(4, 1, 1);
        Due.due("27: find", x.find(0, 0, 0), 5);
        under(x, 0, 0, 5, 15, 3);
        under(x, 0, 1, 3, 6, 1);
        under(x, 0, 2, 1, 1, 0);
        under(x, 2, 2, 1, 3, 1);
        under(x, 3, 1, 2, 9, 2);
        under(x, 4, 2, 2, 9, 2);
        under(x, 4, 3, 1, 5, 1);
        Due.due("32: set", x.set(4, 4), 1);
        under(x, 4, 2, 2, 5, 2);
        under(x, 4, 3, 1, 1, 1);
        under(x, 0, 2, 1, 1, 0);
        under(x, 1, 0, 5, 11, 3);
    }

    private static void under(ParameterFind x, int i, int n, int... want) {
        for (int what = 0; what < 3; what++) {
            Due.due("30: under(" + i + ", " + n + ", " + what + ")", x.under(i, n, what), want[what]);
        }
    }

    /** 79 THINGS within one another: as long as a PATH can be. */
    private static void deepest() {
        ParameterFind x = new ParameterFind();
        x.part(1);
        for (int t = 1; t < 79; t++) {
            x.list();
            Due.due("20: push", t == 1 ? x.hold(0, 1, 0, 1) : x.push(t - 1, t), 1);
        }
        x.row(0, 9);
        x.push(78, 79);
        Due.due("27: find", x.find(0, 0, 0), 1);
        Due.due("28: STEPS", x.at(0, 4), 79);
        Due.due("29: the first", x.step(0, 0, 1), 10);
        Due.due("29: the second", x.step(0, 1, 0), 2);
        Due.due("29: the last", x.step(0, 78, 0), 2);
        Due.due("29: no more", x.step(0, 79, 0), -102);
        Due.due("30: all STEPS", x.under(0, 79, 1), 9);
        Due.due("32: set", x.set(0, 79), 1);
    }

    /** As many places as there can be: 6 ARRAYS and 6 LISTS in a LIST, 65 more ARRAYS in these, and a ROW. */
    private static void widest() {
        ParameterFind x = new ParameterFind();
        x.part(1);
        for (int l = 0; l < 7; l++) {
            x.list();
        }
        for (int a = 0; a < 71; a++) {
            x.array(a % 8, 12);
        }
        x.row(3, 1);
        x.hold(0, 0, 0, 1);
        for (int t = 2; t < 14; t++) {
            x.push(1, t);
        }
        for (int t = 14; t < 79; t++) {
            x.push(2 + (t - 14) / 12, t);
        }
        x.hold(0, 1, 0, 79);
        Due.due("27: find", x.find(0, 0, 0), 1);
        path(x, 0, 0, 10);
        meters("widest", x, 1, 71 * 12, 0, 0, 0, 0, 0, -1);
    }
}
