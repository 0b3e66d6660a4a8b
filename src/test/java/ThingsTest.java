/** Promises 1 to 11: a new object, making THINGS, and what they tell of themselves. */
public final class ThingsTest {
    public static void main(String[] args) {
        newObject();
        rows();
        arrays();
        listsMapsPlains();
        parts();
        copies();
        kindsAndAbouts();
        lengths();
        eightyThings();
        Due.end();
    }

    private static void newObject() {
        ParameterFind x = new ParameterFind();
        for (int what = 0; what < 4; what++) {
            Due.due("1: count(" + what + ")", x.count(what), 0);
        }
        for (int what = 0; what < 7; what++) {
            Due.due("1: meter(" + what + ")", x.meter(what), 0);
        }
        Due.due("1: meter(7)", x.meter(7), -1);
        for (int what = 0; what < 8; what++) {
            Due.due("1: fails(" + what + ")", x.fails(what), 0);
        }
        Due.due("1: kind(0)", x.kind(0), -101);
        Due.due("1: at(0, 0)", x.at(0, 0), -102);
        Due.due("1: keep()", x.keep(), 0);
        Due.due("1: back()", x.back(), 0);
        for (int cls = 0; cls < 8; cls++) {
            Due.due("1: mark(" + cls + ", 0, 0)", x.mark(cls, 0, 0), 0);
        }
    }

    private static void rows() {
        ParameterFind x = new ParameterFind();
        for (int lane = 0; lane < 8; lane++) {
            Due.due("2: row(" + lane + ", 24)", x.row(lane, 24), lane);
            Due.due("2: about", x.about(lane), lane);
            Due.due("2: length", x.length(lane), 24);
            Due.due("2: first item", x.get(lane, 0, lane), 0);
            Due.due("2: last item", x.get(lane, 23, lane), 0);
        }
        Due.due("2: row(-1, 1)", x.row(-1, 1), -102);
        Due.due("2: row(8, 1)", x.row(8, 1), -102);
        Due.due("2: row(0, 25)", x.row(0, 25), -102);
        Due.due("2: row(8, -1)", x.row(8, -1), -102);
        Due.due("2: row(0, max)", x.row(0, Integer.MAX_VALUE), -102);
        Due.due("2: row(0, -1)", x.row(0, -1), -25);
        Due.due("2: row(0, min)", x.row(0, Integer.MIN_VALUE), -25);
        Due.due("2: fails(5)", x.fails(5), 2);
        Due.due("2: row(5, 0)", x.row(5, 0), 8);
        Due.due("2: length(8)", x.length(8), 0);
        Due.due("2: count(0)", x.count(0), 9);
    }

    private static void arrays() {
        ParameterFind x = new ParameterFind();
        for (int sort = 0; sort < 8; sort++) {
            Due.due("3: array(" + sort + ", 12)", x.array(sort, 12), sort);
            Due.due("3: about", x.about(sort), sort);
            Due.due("3: length", x.length(sort), 12);
            Due.due("3: first spot", x.spot(sort, 0), -1);
            Due.due("3: last spot", x.spot(sort, 11), -1);
        }
        Due.due("3: array(-1, 1)", x.array(-1, 1), -102);
        Due.due("3: array(8, 1)", x.array(8, 1), -102);
        Due.due("3: array(8, -1)", x.array(8, -1), -102);
        Due.due("3: array(0, 13)", x.array(0, 13), -102);
        Due.due("3: array(0, -1)", x.array(0, -1), -25);
        Due.due("3: array(0, min)", x.array(0, Integer.MIN_VALUE), -25);
        Due.due("3: array(7, 0)", x.array(7, 0), 8);
        Due.due("3: length(8)", x.length(8), 0);
    }

    private static void listsMapsPlains() {
        ParameterFind x = new ParameterFind();
        Due.due("4: list()", x.list(), 0);
        Due.due("4: list()", x.list(), 1);
        Due.due("4: about(0)", x.about(0), 0);
        Due.due("4: entry(0, 0)", x.entry(0, 0), -23);
        Due.due("5: map()", x.map(), 2);
        Due.due("5: about(2)", x.about(2), 0);
        Due.due("5: keyed(2, 0)", x.keyed(2, 0), -1);
        Due.due("7: plain(min)", x.plain(Integer.MIN_VALUE), 3);
        Due.due("7: about(3)", x.about(3), Integer.MIN_VALUE);
        Due.due("7: plain(max)", x.plain(Integer.MAX_VALUE), 4);
        Due.due("7: about(4)", x.about(4), Integer.MAX_VALUE);
    }

    private static void parts() {
        ParameterFind x = new ParameterFind();
        Due.due("6: part(0)", x.part(0), -102);
        Due.due("6: part(-1)", x.part(-1), -102);
        Due.due("6: part(8)", x.part(8), -102);
        for (int cls = 1; cls < 8; cls++) {
            Due.due("6: part(" + cls + ")", x.part(cls), cls - 1);
            Due.due("6: kind", x.kind(cls - 1), 4);
            Due.due("6: about", x.about(cls - 1), cls);
            Due.due("6: held", x.held(cls - 1, cls, 0), -1);
        }
        Due.due("6: the VAULT is open", x.lock(6, false), 0);
    }

    private static void copies() {
        ParameterFind x = new ParameterFind();
        x.row(5, 3);
        x.put(0, 2, 5, -7);
        Due.due("8: copy(0)", x.copy(0), 1);
        Due.due("8: about", x.about(1), 5);
        Due.due("8: length", x.length(1), 3);
        Due.due("8: item", x.get(1, 2, 5), -7);
        x.put(0, 2, 5, 9);
        Due.due("8: the copy has its own ITEMS", x.get(1, 2, 5), -7);
        x.put(1, 0, 5, 4);
        Due.due("8: so has the first one", x.get(0, 0, 5), 0);
        x.row(7, 2);
        x.put(2, 1, 7, 65535);
        Due.due("8: copy(2)", x.copy(2), 3);
        Due.due("8: item", x.get(3, 1, 7), 65535);
        x.part(1);
        Due.due("8: copy of a PART", x.copy(4), -24);
        Due.due("8: copy(-1)", x.copy(-1), -101);
        Due.due("8: copy(5)", x.copy(5), -101);
        Due.due("8: fails(4)", x.fails(4), 1);
        Due.due("8: count(0)", x.count(0), 5);
    }

    private static void kindsAndAbouts() {
        ParameterFind x = oneOfEach();
        for (int t = 0; t < 6; t++) {
            Due.due("9: kind(" + t + ")", x.kind(t), t);
        }
        Due.due("9: kind(6)", x.kind(6), -101);
        Due.due("9: kind(-1)", x.kind(-1), -101);
        Due.due("10: about(6)", x.about(6), -101);
        Due.due("10: about(-1)", x.about(-1), -101);
        x.push(2, -1);
        x.push(2, 0);
        Due.due("10: ENTRIES", x.about(2), 2);
        x.key(3, 5, 0);
        Due.due("10: KEYS", x.about(3), 1);
        Due.due("10: plain(-22)", x.about(x.plain(-22)), -22);
        Due.due("10: what a PLAIN tells is no FINDING", x.fails(0), 0);
        Due.due("10: plain(-101)", x.about(x.plain(-101)), -101);
    }

    private static void lengths() {
        ParameterFind x = oneOfEach();
        Due.due("11: ROW", x.length(0), 2);
        Due.due("11: ARRAY", x.length(1), 3);
        for (int t = 2; t < 6; t++) {
            Due.due("11: length(" + t + ")", x.length(t), -24);
        }
        Due.due("11: fails(4)", x.fails(4), 4);
        Due.due("11: length(6)", x.length(6), -101);
        Due.due("11: fails(0)", x.fails(0), 4);
    }

    private static ParameterFind oneOfEach() {
        ParameterFind x = new ParameterFind();
        x.row(1, 2);
        x.array(6, 3);
        x.list();
        x.map();
        x.part(6);
        x.plain(77);
        return x;
    }

    private static void eightyThings() {
        ParameterFind x = new ParameterFind();
        for (int t = 0; t < 79; t++) {
            x.row(t % 8, 1);
        }
        Due.due("7: the 80th THING", x.plain(3), 79);
        Due.due("2: FULL", x.row(0, 1), -103);
        Due.due("2: FULL is told before SIZE", x.row(0, -1), -103);
        Due.due("2: BAD is told before FULL", x.row(0, 25), -102);
        Due.due("3: FULL", x.array(0, 1), -103);
        Due.due("3: FULL is told before SIZE", x.array(0, -1), -103);
        Due.due("3: BAD is told before FULL", x.array(8, 0), -102);
        Due.due("4: FULL", x.list(), -103);
        Due.due("5: FULL", x.map(), -103);
        Due.due("6: FULL", x.part(1), -103);
        Due.due("6: BAD is told before FULL", x.part(0), -102);
        Due.due("7: FULL", x.plain(1), -103);
        Due.due("8: FULL", x.copy(0), -103);
        Due.due("8: FULL is told before KIND", x.copy(79), -103);
        Due.due("8: UNKNOWN is told before FULL", x.copy(80), -101);
        Due.due("38: count(0)", x.count(0), 80);
        Due.due("37: REFUSALS are no FINDINGS", x.fails(0), 0);
    }
}
