/** Promises 32 to 36: PARAMETERS set anew, changed, summed up, KEPT and brought back. */
public final class ChangesTest {
    public static void main(String[] args) {
        setFields();
        setOtherPlaces();
        setKeepsTheRest();
        eachWhole();
        eachReal();
        eachRefusals();
        sums();
        sumRefusals();
        keeping();
        Due.end();
    }

    /** A LAYER with a ROW of n ITEMS of a LANE as its WEIGHT, found: THINGS 0 and 1, PARAMETER 0. */
    private static ParameterFind foundRow(int lane, int n) {
        ParameterFind x = new ParameterFind();
        x.part(1);
        x.row(lane, n);
        x.hold(0, 1, 0, 1);
        Due.due("27: find", x.find(0, 0, 0), 1);
        return x;
    }

    private static void setFields() {
        ParameterFind x = new ParameterFind();
        x.part(2);
        x.row(5, 1);
        x.row(5, 2);
        x.row(4, 3);
        x.plain(1);
        x.hold(0, 2, 0, 1);
        x.hold(0, 2, 1, 2);
        x.find(0, 0, 0);
        Due.due("32: BAD before UNKNOWN", x.set(2, 9), -102);
        Due.due("32: BAD", x.set(-1, 1), -102);
        Due.due("32: UNKNOWN", x.set(0, 5), -101);
        Due.due("32: UNKNOWN, not bare", x.set(0, -1), -101);
        Due.due("32: KIND before CAST", x.set(0, 4), -24);
        Due.due("32: KIND, though BIAS takes any", x.set(1, 4), -24);
        Due.due("32: CAST", x.set(0, 3), -22);
        Due.due("17: nothing has changed", x.held(0, 2, 0), 1);
        Due.due("32: set", x.set(0, 2), 1);
        Due.due("17: held", x.held(0, 2, 0), 2);
        Due.due("28: PARAMETER 0", x.at(0, 0), 2);
        Due.due("32: BIAS takes any", x.set(1, 3), 1);
        Due.due("28: LANE", x.at(1, 1), 4);
        Due.due("28: ITEMS", x.at(1, 2), 3);
        Due.due("17: held", x.held(0, 2, 1), 3);
        x.mark(2, 0, 4);
        x.find(0, 0, 0);
        Due.due("32: KIND before STATE", x.set(0, 4), -24);
        Due.due("32: STATE before CAST", x.set(0, 3), -104);
        Due.due("32: STATE", x.set(0, 1), -104);
        Due.due("17: nothing has changed", x.held(0, 2, 0), 2);
        Due.due("32: another FIELD", x.set(1, 1), 1);
        x.mark(2, 0, 1);
        x.find(0, 0, 0);
        Due.due("32: FROZEN is not FINAL", x.set(0, 1), 1);
        Due.due("37: KIND", x.fails(4), 3);
        Due.due("37: CAST", x.fails(2), 1);
    }

    /** FINAL is the FIELD at the end of a PATH, not one on the way. */
    private static void setOtherPlaces() {
        ParameterFind x = new ParameterFind();
        x.part(1);
        x.map();
        x.list();
        x.array(6, 2);
        for (int t = 0; t < 4; t++) {
            x.row(4, t);
        }
        x.row(5, 9);
        x.hold(0, 1, 0, 1);
        x.key(1, 900, 4);
        x.key(1, 5, 2);
        x.push(2, -1);
        x.push(2, 5);
        x.push(2, 3);
        x.lay(3, 1, 6);
        x.mark(1, 0, 4);
        Due.due("27: find", x.find(0, 0, 0), 3);
        Due.due("32: an ENTRY", x.set(0, 8), 1);
        Due.due("21: entry", x.entry(2, 1), 8);
        Due.due("21: the ENTRY before", x.entry(2, 0), -1);
        Due.due("32: a SPOT, CAST", x.set(1, 8), -22);
        Due.due("19: spot", x.spot(3, 1), 6);
        Due.due("32: a SPOT", x.set(1, 7), 1);
        Due.due("19: spot", x.spot(3, 1), 7);
        Due.due("32: a KEY", x.set(2, 8), 1);
        Due.due("23: keyed", x.keyed(1, 900), 8);
        Due.due("10: KEYS", x.about(1), 2);
        Due.due("37: CAST", x.fails(2), 1);
        Due.due("38: PARAMETERS stay", x.count(1), 3);
        Due.due("27: find anew", x.find(0, 0, 0), 2);
        Due.due("28: AGAIN", x.at(0, 5), 1);
    }

    private static void setKeepsTheRest() {
        ParameterFind x = new ParameterFind();
        x.part(3);
        x.row(5, 2);
        x.row(5, 3);
        x.hold(0, 1, 0, 1);
        x.hold(0, 2, 0, 1);
        x.hold(0, 3, 0, 2);
        x.mark(1, 0, 1);
        x.find(0, 0, 0);
        Due.due("32: set", x.set(0, 2), 1);
        Due.due("28: FROZEN stays", x.at(0, 3), 1);
        Due.due("28: STEPS stay", x.at(0, 4), 1);
        Due.due("28: AGAIN stays", x.at(0, 5), 1);
        Due.due("29: PATH stays", x.step(0, 0, 1), 10);
        Due.due("17: where it was AGAIN", x.held(0, 2, 0), 1);
        Due.due("28: the other PARAMETER", x.at(1, 3), 0);
        Due.due("31: METER stays", x.meter(2), 1);
        Due.due("33: the place is FROZEN", x.each(0, 0, 4), -104);
        Due.due("33: the ROW is not", x.each(1, 0, 4), 3);
        Due.due("34: one ROW", x.sum(0, 5), 12);
        Due.due("32: set back", x.set(0, 1), 1);
        Due.due("28: PARAMETER 0", x.at(0, 0), 1);
    }

    private static long after(int lane, long item, int act, long v) {
        ParameterFind x = foundRow(lane, 2);
        x.put(1, 1, lane, item);
        Due.due("33: how many", x.each(0, act, v), 2);
        return x.get(1, 1, lane);
    }

    private static void eachWhole() {
        Due.due("33: and", after(2, 5, 0, -7), -2);
        Due.due("33: times", after(2, 5, 1, -7), -35);
        Due.due("33: less", after(2, 5, 2, -7), -12);
        Due.due("33: lesser v", after(2, 5, 3, -7), -7);
        Due.due("33: lesser own", after(2, 5, 3, 7), 5);
        Due.due("33: bytes", after(0, 127, 0, 1), -128);
        Due.due("33: bytes", after(0, -128, 2, 0), -128);
        Due.due("33: bytes, the lesser, then its bits", after(0, 5, 3, -1000), 24);
        Due.due("33: shorts", after(1, 300, 1, 300), 24464);
        Due.due("33: ints", after(2, Integer.MAX_VALUE, 0, 1), Integer.MIN_VALUE);
        Due.due("33: longs wrap", after(3, Long.MAX_VALUE, 0, 1), Long.MIN_VALUE);
        Due.due("33: longs wrap", after(3, Long.MIN_VALUE, 1, -1), Long.MIN_VALUE);
        Due.due("33: longs wrap", after(3, 1, 2, Long.MIN_VALUE), Long.MAX_VALUE);
        Due.due("33: stamps", after(7, 65535, 0, 1), 0);
        Due.due("33: stamps", after(7, 1, 2, 0), 65535);
        ParameterFind x = foundRow(0, 3);
        x.each(0, 0, 9);
        for (int i = 0; i < 3; i++) {
            Due.due("33: each ITEM", x.get(1, i, 0), 9);
        }
        Due.due("33: no ITEM", foundRow(3, 0).each(0, 0, 1), 0);
    }

    private static void eachReal() {
        Due.due("33: quarters", after(5, 5, 0, 2), 7);
        Due.due("33: WORDS times", after(5, 6, 1, 3), 18);
        Due.due("33: less", after(4, 6, 2, 1), -5);
        Due.due("33: lesser", after(4, 6, 3, 1), 1);
        Due.due("33: at most", after(5, 4000000000L, 0, 1), 4000000000L);
        Due.due("33: at least", after(5, -4000000000L, 0, -1), -4000000000L);
        Due.due("33: wrapping first", after(5, 1, 0, Long.MAX_VALUE), -4000000000L);
        Due.due("33: wrapping first", after(4, 4, 1, 1L << 62), 0);
        Due.due("33: at most", after(4, 4000000000L, 1, 1000), 4000000000L);
        Due.due("33: the nearest float", after(4, 16777216, 0, 1), 16777216);
        Due.due("33: a double tells it", after(5, 16777216, 0, 1), 16777217);
        ParameterFind x = foundRow(5, 1);
        x.put(1, 0, 3, Long.MAX_VALUE);
        Due.due("33: beyond, nothing added", x.each(0, 0, 0), 1);
        Due.due("12: at most", x.get(1, 0, 5), 4000000000L);
    }

    private static void eachRefusals() {
        ParameterFind x = foundRow(6, 2);
        Due.due("33: BAD i", x.each(1, 0, 0), -102);
        Due.due("33: BAD i", x.each(-1, 0, 0), -102);
        Due.due("33: BAD act before KIND", x.each(0, 4, 0), -102);
        Due.due("33: BAD act", x.each(0, -1, 0), -102);
        Due.due("33: KIND", x.each(0, 0, 1), -24);
        x.mark(1, 0, 1);
        x.find(0, 0, 0);
        Due.due("33: BAD act before STATE", x.each(0, 4, 0), -102);
        Due.due("33: STATE before KIND", x.each(0, 0, 1), -104);
        Due.due("12: nothing has changed", x.get(1, 0, 6), 0);
        Due.due("37: KIND", x.fails(4), 1);
        Due.due("37: all", x.fails(0), 1);
    }

    private static void sums() {
        ParameterFind x = foundRow(3, 3);
        x.put(1, 0, 3, Long.MAX_VALUE);
        x.put(1, 1, 3, 2);
        x.put(1, 2, 3, -1);
        Due.due("34: longs wrap", x.sum(0, 3), Long.MIN_VALUE);
        Due.due("34: as doubles", x.sum(0, 5), Long.MAX_VALUE);
        x.put(1, 0, 3, 9007199254740992L);
        x.put(1, 1, 3, 1);
        x.put(1, 2, 3, 1);
        Due.due("34: in order, each sum the nearest", x.sum(0, 5), 4 * 9007199254740992L);
        x.put(1, 0, 3, 1);
        x.put(1, 2, 3, 9007199254740992L);
        Due.due("34: in another order", x.sum(0, 5), 4 * 9007199254740994L);
        ParameterFind y = foundRow(4, 3);
        y.put(1, 0, 4, 1);
        y.put(1, 1, 4, -3);
        y.put(1, 2, 4, 9);
        Due.due("34: floats", y.sum(0, 5), 7);
        ParameterFind z = foundRow(7, 2);
        z.put(1, 0, 7, 65535);
        z.put(1, 1, 7, 1);
        Due.due("34: stamps as longs", z.sum(0, 3), 65536);
        Due.due("34: stamps as doubles", z.sum(0, 5), 262144);
    }

    private static void sumRefusals() {
        ParameterFind x = foundRow(6, 1);
        Due.due("34: BAD i", x.sum(1, 3), -102);
        Due.due("34: BAD i", x.sum(-1, 3), -102);
        int[] noAs = {-1, 0, 1, 2, 4, 6, 7, 8};
        for (int as : noAs) {
            Due.due("34: BAD as", x.sum(0, as), -102);
        }
        Due.due("34: KIND", x.sum(0, 3), -24);
        Due.due("34: KIND", x.sum(0, 5), -24);
        Due.due("34: doubles as longs", foundRow(5, 1).sum(0, 3), -24);
        Due.due("34: floats as longs", foundRow(4, 1).sum(0, 3), -24);
        Due.due("34: no ITEM that does not WIDEN", foundRow(5, 0).sum(0, 3), 0);
        Due.due("34: no ITEM that does not WIDEN", foundRow(6, 0).sum(0, 5), 0);
        Due.due("37: KIND", x.fails(4), 2);
        x.set(0, x.row(3, 1));
        x.put(2, 0, 3, -24);
        Due.due("34: a sum as a FINDING", x.sum(0, 3), -24);
        Due.due("37: is none", x.fails(4), 2);
    }

    private static void keeping() {
        ParameterFind x = new ParameterFind();
        x.part(3);
        x.row(2, 2);
        x.row(5, 2);
        x.row(4, 1);
        x.hold(0, 1, 0, 1);
        x.hold(0, 2, 0, 2);
        x.hold(0, 3, 0, 3);
        x.put(1, 0, 2, 11);
        x.put(2, 1, 5, 13);
        Due.due("36: nothing KEPT", x.back(), 0);
        x.find(0, 0, 0);
        Due.due("35: keep", x.keep(), 3);
        Due.due("38: count(3)", x.count(3), 3);
        x.put(1, 0, 2, 1);
        x.put(1, 1, 2, 2);
        x.put(2, 1, 5, 3);
        x.hold(0, 1, 0, -1);
        Due.due("38: no PARAMETERS", x.count(1), 0);
        Due.due("38: KEPT still", x.count(3), 3);
        Due.due("36: back", x.back(), 3);
        Due.due("36: items", x.get(1, 0, 2), 11);
        Due.due("36: items", x.get(1, 1, 2), 0);
        Due.due("36: items", x.get(2, 1, 5), 13);
        x.put(1, 0, 2, 5);
        Due.due("36: back once more", x.back(), 3);
        Due.due("36: items", x.get(1, 0, 2), 11);
        x.find(0, 1, 0);
        x.put(1, 0, 2, 6);
        x.put(2, 1, 5, 7);
        x.set(1, 2);
        Due.due("35: each once, instead of those before", x.keep(), 1);
        x.put(1, 0, 2, 8);
        x.put(2, 1, 5, 9);
        Due.due("36: back", x.back(), 1);
        Due.due("36: no more KEPT", x.get(1, 0, 2), 8);
        Due.due("36: KEPT anew", x.get(2, 1, 5), 7);
        x.mark(0, 0, 0);
        Due.due("35: none", x.keep(), 0);
        Due.due("36: none", x.back(), 0);
        Due.due("38: count(3)", x.count(3), 0);
    }
}
