/** Promises 16 to 26: FIELDS, SPOTS, ENTRIES, KEYS, VAULTS, MARKS, SIZE and TITLE. */
public final class PlacesTest {
    private static final int[] FIELDS = {1, 1, 2, 2, 2, 2, 2, 1};
    /** The VIEW of each FIELD, at twice the class and f; -1 any. */
    private static final int[] TAKES = {-1, -1, -1, -1, 5, -1, -1, 17, 4, -1, 16, 16, 13, 9, -1, -1};
    private static final int[] SORT_VIEWS = {16, 17, 18, 20, 21, 5, 4, 2};

    public static void main(String[] args) {
        fieldsTake();
        fieldsByThemselves();
        fieldRefusals();
        spotsTake();
        spotRefusals();
        lists();
        maps();
        vaults();
        marks();
        sizes();
        sizesOfNought();
        nestedSizes();
        titles();
        askRefusals();
        Due.end();
    }

    /** 0 .. 7 ROWS, 8 .. 15 ARRAYS of two SPOTS, 16 PLAIN, 17 .. 23 PARTS, 24 LIST, 25 MAP. */
    private static ParameterFind things() {
        ParameterFind x = new ParameterFind();
        for (int lane = 0; lane < 8; lane++) {
            x.row(lane, 1);
        }
        for (int sort = 0; sort < 8; sort++) {
            x.array(sort, 2);
        }
        x.plain(5);
        for (int cls = 1; cls < 8; cls++) {
            x.part(cls);
        }
        x.list();
        x.map();
        return x;
    }

    private static void fieldsTake() {
        for (int own = 1; own < 8; own++) {
            for (int cls = 0; cls < 8; cls++) {
                for (int f = 0; f < FIELDS[cls]; f++) {
                    // an object for each FIELD: none is promised to answer more than 512 calls
                    oneField(things(), 16 + own, cls, f);
                }
            }
        }
    }

    private static void oneField(ParameterFind x, int p, int cls, int f) {
        boolean has = x.is(p, 16 + cls) == 1;
        int view = TAKES[2 * cls + f];
        for (int t = 0; t < 26; t++) {
            boolean takes = has && (view < 0 || x.is(t, view) == 1);
            String call = "(" + p + ", " + cls + ", " + f + ", " + t + ")";
            Due.due("16: bare", x.hold(p, cls, f, -1), has ? 1 : -22);
            Due.due("16: hold" + call, x.hold(p, cls, f, t), takes ? 1 : -22);
            Due.due("17: held" + call, x.held(p, cls, f), !has ? -22 : takes ? t : -1);
        }
    }

    private static void fieldsByThemselves() {
        ParameterFind x = new ParameterFind();
        x.part(3);
        for (int t = 0; t < 5; t++) {
            x.row(5, t);
        }
        x.part(1);
        x.hold(0, 0, 0, 1);
        x.hold(0, 1, 0, 2);
        x.hold(0, 2, 0, 3);
        x.hold(0, 2, 1, 4);
        x.hold(0, 3, 0, 5);
        x.hold(0, 3, 1, 6);
        Due.due("17: NOTE", x.held(0, 0, 0), 1);
        Due.due("17: WEIGHT of LAYER", x.held(0, 1, 0), 2);
        Due.due("17: WEIGHT of DENSE", x.held(0, 2, 0), 3);
        Due.due("17: BIAS", x.held(0, 2, 1), 4);
        Due.due("17: WEIGHT of DEEP", x.held(0, 3, 0), 5);
        Due.due("17: INNER", x.held(0, 3, 1), 6);
        Due.due("16: INNER does not take a ROW", x.hold(0, 3, 1, 1), -22);
        Due.due("17: INNER is as it was", x.held(0, 3, 1), 6);
        x.part(3);
        Due.due("17: another PART is bare", x.held(7, 2, 0), -1);
    }

    private static void fieldRefusals() {
        ParameterFind x = things();
        Due.due("16: UNKNOWN p before BAD", x.hold(26, 9, 0, 0), -101);
        Due.due("16: UNKNOWN t before BAD", x.hold(17, 9, 0, 26), -101);
        Due.due("16: UNKNOWN t = -2", x.hold(17, 0, 0, -2), -101);
        Due.due("16: BAD cls", x.hold(17, 8, 0, 0), -102);
        Due.due("16: BAD cls", x.hold(17, -1, 0, 0), -102);
        Due.due("16: BAD f before CAST", x.hold(0, 0, 1, 0), -102);
        Due.due("16: BAD f", x.hold(23, 7, 1, 0), -102);
        Due.due("16: BAD f", x.hold(17, 1, -1, 0), -102);
        Due.due("16: CAST, no PART", x.hold(0, 0, 0, 0), -22);
        Due.due("16: CAST, another class", x.hold(17, 2, 0, 5), -22);
        Due.due("17: UNKNOWN before BAD", x.held(26, 9, 0), -101);
        Due.due("17: BAD", x.held(17, 8, 0), -102);
        Due.due("17: BAD", x.held(17, 5, 2), -102);
        Due.due("17: CAST", x.held(16, 0, 0), -22);
        Due.due("37: fails(2)", x.fails(2), 3);
        Due.due("37: fails(0)", x.fails(0), 3);
    }

    private static void spotsTake() {
        for (int sort = 0; sort < 8; sort++) {
            ParameterFind x = things();
            for (int t = 0; t < 26; t++) {
                oneSpot(x, 8 + sort, sort, t);
            }
            Due.due("37: what is thrown is no FINDING", x.fails(0), 0);
        }
    }

    private static void oneSpot(ParameterFind x, int a, int sort, int t) {
        String call = "18: lay(" + a + ", 1, " + t + ")";
        Due.due("18: bare", x.lay(a, 1, -1), 1);
        boolean takes = x.is(t, SORT_VIEWS[sort]) == 1;
        if (takes) {
            Due.due(call, x.lay(a, 1, t), 1);
        } else if (sort < 5 && x.kind(t) == 4) {
            Due.thrown(call, ArrayStoreException.class, () -> x.lay(a, 1, t));
            Due.thrown("18: Index before Store", ArrayIndexOutOfBoundsException.class, () -> x.lay(a, 2, t));
        } else {
            Due.thrown(call, ClassCastException.class, () -> x.lay(a, 1, t));
            Due.thrown("18: Cast before Index", ClassCastException.class, () -> x.lay(a, 2, t));
        }
        Due.due("19: spot", x.spot(a, 1), takes ? t : -1);
        Due.due("19: the other SPOT", x.spot(a, 0), -1);
    }

    private static void spotRefusals() {
        ParameterFind x = things();
        Due.due("18: UNKNOWN a", x.lay(26, 0, 0), -101);
        Due.due("18: UNKNOWN t", x.lay(8, 0, 26), -101);
        Due.due("18: UNKNOWN t = -2 before Cast", x.lay(0, 0, -2), -101);
        Due.due("19: UNKNOWN", x.spot(-1, 0), -101);
        int[] noArrays = {0, 16, 17, 24, 25};
        for (int t : noArrays) {
            Due.thrown("18: Cast, no ARRAY", ClassCastException.class, () -> x.lay(t, 0, -1));
            Due.thrown("19: Cast, no ARRAY", ClassCastException.class, () -> x.spot(t, 99));
        }
        int[] noSpots = {-1, 2, Integer.MAX_VALUE, Integer.MIN_VALUE};
        for (int i : noSpots) {
            Due.thrown("18: Index", ArrayIndexOutOfBoundsException.class, () -> x.lay(8, i, -1));
            Due.thrown("18: Index", ArrayIndexOutOfBoundsException.class, () -> x.lay(8, i, 17));
            Due.thrown("19: Index", ArrayIndexOutOfBoundsException.class, () -> x.spot(8, i));
        }
        x.array(0, 0);
        Due.thrown("19: an ARRAY of no SPOTS", ArrayIndexOutOfBoundsException.class, () -> x.spot(26, 0));
    }

    private static void lists() {
        ParameterFind x = new ParameterFind();
        x.list();
        x.row(0, 1);
        Due.due("20: push", x.push(0, 1), 1);
        Due.due("20: a bare one", x.push(0, -1), 2);
        Due.due("20: itself", x.push(0, 0), 3);
        Due.due("21: entry", x.entry(0, 0), 1);
        Due.due("21: a bare one", x.entry(0, 1), -1);
        Due.due("21: itself", x.entry(0, 2), 0);
        Due.due("21: OUT", x.entry(0, 3), -23);
        Due.due("21: OUT", x.entry(0, -1), -23);
        Due.due("21: CAST", x.entry(1, 0), -22);
        Due.due("21: UNKNOWN", x.entry(2, 0), -101);
        for (int n = 4; n <= 12; n++) {
            Due.due("20: push", x.push(0, 1), n);
        }
        Due.due("20: FULL", x.push(0, 1), -103);
        Due.due("20: FULL", x.push(0, -1), -103);
        Due.due("20: UNKNOWN before FULL", x.push(0, 2), -101);
        Due.due("20: UNKNOWN", x.push(2, 0), -101);
        Due.due("20: UNKNOWN t = -2", x.push(0, -2), -101);
        Due.due("20: CAST", x.push(1, 0), -22);
        x.array(0, 1);
        Due.due("20: an ARRAY is no LIST", x.push(2, -1), -22);
        Due.due("21: an ARRAY is no LIST", x.entry(2, 0), -22);
        Due.due("21: the last", x.entry(0, 11), 1);
        Due.due("10: about", x.about(0), 12);
        Due.due("37: OUT", x.fails(3), 2);
        Due.due("37: CAST", x.fails(2), 4);
    }

    private static void maps() {
        ParameterFind x = new ParameterFind();
        x.map();
        x.plain(4);
        Due.due("22: key", x.key(0, 999, 1), 1);
        Due.due("22: key", x.key(0, 0, 0), 2);
        Due.due("22: another THING", x.key(0, 999, 0), 2);
        Due.due("23: keyed", x.keyed(0, 999), 0);
        Due.due("23: no such KEY", x.keyed(0, 5), -1);
        Due.due("23: never a KEY", x.keyed(0, 1000), -1);
        Due.due("23: never a KEY", x.keyed(0, -1), -1);
        Due.due("22: gone", x.key(0, 999, -1), 1);
        Due.due("23: gone", x.keyed(0, 999), -1);
        Due.due("22: gone before", x.key(0, 999, -1), 1);
        for (int n = 2; n <= 8; n++) {
            Due.due("22: key", x.key(0, 100 - n, 1), n);
        }
        Due.due("22: FULL", x.key(0, 50, 1), -103);
        Due.due("22: no ninth KEY", x.key(0, 50, -1), 8);
        Due.due("22: one of the eight", x.key(0, 98, 0), 8);
        Due.due("23: keyed", x.keyed(0, 98), 0);
        Due.due("23: keyed", x.keyed(0, 97), 1);
        Due.due("22: room again", x.key(0, 95, -1), 7);
        Due.due("22: key", x.key(0, 50, 0), 8);
        Due.due("23: keyed", x.keyed(0, 50), 0);
        Due.due("23: the least", x.keyed(0, 0), 0);
        Due.due("22: UNKNOWN m before BAD", x.key(2, -1, 0), -101);
        Due.due("22: UNKNOWN t before BAD", x.key(0, 1000, 2), -101);
        Due.due("22: UNKNOWN t = -2", x.key(0, 0, -2), -101);
        Due.due("22: BAD before CAST", x.key(1, 1000, 0), -102);
        Due.due("22: BAD", x.key(0, -1, -1), -102);
        Due.due("22: CAST", x.key(1, 0, -1), -22);
        Due.due("23: UNKNOWN", x.keyed(-1, 0), -101);
        Due.due("23: CAST", x.keyed(1, 1000), -22);
        Due.due("37: CAST", x.fails(2), 2);
        Due.due("37: all", x.fails(0), 2);
    }

    private static void vaults() {
        ParameterFind x = things();
        Due.due("24: shut", x.lock(23, true), 0);
        Due.due("24: shut again", x.lock(23, true), 1);
        Due.due("26: TROUBLE", x.ask(23, 0), -26);
        Due.due("26: TITLE of a SHUT one", x.ask(23, 1), 700);
        Due.due("16: a SHUT one holds", x.hold(23, 7, 0, 1), 1);
        Due.due("17: a SHUT one tells", x.held(23, 7, 0), 1);
        Due.due("24: open", x.lock(23, false), 1);
        Due.due("24: open again", x.lock(23, false), 0);
        Due.due("26: SIZE", x.ask(23, 0), 7);
        Due.due("24: CAST", x.lock(22, true), -22);
        Due.due("24: CAST", x.lock(0, true), -22);
        Due.due("24: UNKNOWN", x.lock(26, true), -101);
        Due.due("37: TROUBLE", x.fails(6), 1);
        Due.due("37: CAST", x.fails(2), 2);
    }

    private static void marks() {
        ParameterFind x = new ParameterFind();
        for (int cls = 0; cls < 8; cls++) {
            for (int f = 0; f < FIELDS[cls]; f++) {
                Due.due("25: mark", x.mark(cls, f, (cls + f) % 8), 0);
            }
        }
        for (int cls = 0; cls < 8; cls++) {
            for (int f = 0; f < FIELDS[cls]; f++) {
                Due.due("25: what they were", x.mark(cls, f, 7), (cls + f) % 8);
            }
            Due.due("25: BAD f", x.mark(cls, FIELDS[cls], 0), -102);
            Due.due("25: BAD f", x.mark(cls, -1, 0), -102);
            Due.due("25: BAD marks", x.mark(cls, 0, 8), -102);
            Due.due("25: BAD marks", x.mark(cls, 0, -1), -102);
            Due.due("25: nothing has changed", x.mark(cls, 0, 0), 7);
        }
        Due.due("25: BAD cls", x.mark(8, 0, 0), -102);
        Due.due("25: BAD cls", x.mark(-1, 0, 0), -102);
    }

    private static void sizes() {
        ParameterFind x = things();
        Due.due("26: LAYER, bare", x.ask(17, 0), -21);
        x.hold(17, 1, 0, 16);
        Due.due("26: LAYER, a PLAIN", x.ask(17, 0), -24);
        x.hold(17, 1, 0, 24);
        Due.due("26: LAYER, a LIST", x.ask(17, 0), -24);
        x.hold(17, 1, 0, 8);
        Due.due("26: LAYER, an ARRAY", x.ask(17, 0), 2);
        x.hold(18, 2, 0, 5);
        Due.due("26: DENSE, its own WEIGHT is not looked at", x.ask(18, 0), -21);
        x.hold(18, 1, 0, 0);
        Due.due("26: DENSE", x.ask(18, 0), 1);
        x.hold(19, 3, 1, 17);
        Due.due("26: DEEP, what stands above first", x.ask(19, 0), -21);
        x.hold(19, 1, 0, 16);
        x.hold(19, 3, 1, -1);
        Due.due("26: DEEP, KIND before NOTHING", x.ask(19, 0), -24);
        x.hold(19, 1, 0, 0);
        Due.due("26: DEEP, no INNER", x.ask(19, 0), -21);
        x.hold(19, 3, 1, 17);
        Due.due("26: DEEP", x.ask(19, 0), 3);
        Due.due("26: twice", x.ask(19, 2), 6);
        Due.due("26: NORM, no SCALE", x.ask(20, 0), -21);
        x.hold(20, 1, 0, 16);
        x.hold(20, 4, 0, 4);
        Due.due("26: NORM", x.ask(20, 0), 2);
        Due.due("26: BLOCK, no LEFT", x.ask(21, 0), -21);
        x.hold(21, 5, 0, 23);
        Due.due("26: BLOCK, no RIGHT", x.ask(21, 0), -21);
        x.lock(23, true);
        Due.due("26: BLOCK, LEFT first", x.ask(21, 0), -26);
        x.lock(23, false);
        x.hold(21, 5, 1, 20);
        Due.due("26: BLOCK", x.ask(21, 0), 9);
        x.hold(22, 5, 0, 21);
        x.hold(22, 5, 1, 23);
        Due.due("26: BANK, no TABLE", x.ask(22, 0), -21);
        x.hold(22, 6, 0, 13);
        Due.due("26: BANK", x.ask(22, 0), 18);
        Due.due("26: twice", x.ask(22, 2), 36);
        x.lock(23, true);
        Due.due("26: BANK, what stands above first", x.ask(22, 2), -26);
        Due.due("37: NOTHING", x.fails(1), 8);
        Due.due("37: KIND", x.fails(4), 3);
        Due.due("37: TROUBLE", x.fails(6), 2);
        Due.due("37: all", x.fails(0), 13);
    }

    /** A SIZE of 0 is no FINDING: what comes behind it is looked at, what came before it stays. */
    private static void sizesOfNought() {
        ParameterFind x = new ParameterFind();
        x.part(1);
        x.part(7);
        x.part(3);
        x.part(4);
        x.part(6);
        x.row(4, 0);
        x.row(4, 3);
        x.array(5, 0);
        x.hold(0, 1, 0, 5);
        Due.due("26: LAYER", x.ask(0, 0), 0);
        x.hold(3, 4, 0, 5);
        Due.due("26: NORM", x.ask(3, 0), 0);
        x.hold(2, 1, 0, 6);
        x.hold(2, 3, 1, 0);
        Due.due("26: DEEP, INNER 0", x.ask(2, 0), 3);
        x.hold(2, 1, 0, 5);
        x.hold(2, 3, 1, -1);
        Due.due("26: DEEP, what stands above 0", x.ask(2, 0), -21);
        x.hold(4, 5, 0, 1);
        x.hold(4, 5, 1, 0);
        x.hold(4, 6, 0, 7);
        Due.due("26: BANK, RIGHT 0, no SPOTS", x.ask(4, 0), 7);
        x.hold(4, 5, 0, 0);
        x.hold(4, 5, 1, 1);
        Due.due("26: BANK, LEFT 0", x.ask(4, 2), 14);
        x.hold(4, 5, 1, 0);
        Due.due("26: BANK, 0", x.ask(4, 0), 0);
        x.hold(4, 6, 0, -1);
        Due.due("26: BANK, what stands above 0", x.ask(4, 0), -21);
        Due.due("37: all", x.fails(0), 2);
    }

    /** DEEPS 0 .. 10, each INNER of the one before; the last one's WEIGHT alone is bare. */
    private static void nestedSizes() {
        ParameterFind x = new ParameterFind();
        for (int p = 0; p < 11; p++) {
            x.part(3);
        }
        x.row(0, 3);
        for (int p = 0; p < 10; p++) {
            x.hold(p, 1, 0, 11);
            x.hold(p, 3, 1, p + 1);
        }
        Due.due("26: the 11th is FAR before it is looked at", x.ask(0, 0), -27);
        Due.due("26: the 10th is not", x.ask(1, 0), -21);
        x.part(4);
        x.row(4, 5);
        x.hold(12, 4, 0, 13);
        x.hold(9, 3, 1, 12);
        Due.due("26: FAR", x.ask(0, 0), -27);
        Due.due("26: ten SIZES", x.ask(1, 0), 9 * 3 + 10);
        Due.due("26: FAR of twice", x.ask(0, 2), -27);
        x.hold(9, 3, 1, -1);
        Due.due("26: a bare INNER of the 10th", x.ask(0, 0), -21);
        x.hold(4, 1, 0, -1);
        x.hold(9, 3, 1, 12);
        Due.due("26: what comes first", x.ask(0, 0), -21);
        Due.due("37: FAR", x.fails(7), 3);

        ParameterFind y = new ParameterFind();
        for (int p = 0; p < 9; p++) {
            y.part(6);
        }
        y.part(7);
        y.array(5, 1);
        for (int p = 0; p < 9; p++) {
            y.hold(p, 5, 0, p + 1);
            y.hold(p, 5, 1, p + 1);
            y.hold(p, 6, 0, 10);
        }
        Due.due("26: SIZES as of what stands above are no others", y.ask(0, 0), 512 * 7 + 511);
        y.hold(8, 5, 1, 0);
        Due.due("26: a ring", y.ask(0, 0), -27);
    }

    private static void titles() {
        ParameterFind x = things();
        int[] titles = {100, 201, 301, 400, 502, 1806, 700};
        for (int cls = 1; cls < 8; cls++) {
            Due.due("26: TITLE of class " + cls, x.ask(16 + cls, 1), titles[cls - 1]);
        }
    }

    private static void askRefusals() {
        ParameterFind x = things();
        Due.due("26: UNKNOWN before BAD", x.ask(26, 3), -101);
        Due.due("26: BAD before CAST", x.ask(0, 3), -102);
        Due.due("26: BAD", x.ask(17, -1), -102);
        for (int q = 0; q < 3; q++) {
            Due.due("26: CAST, no PART", x.ask(16, q), -22);
        }
        Due.due("26: CAST, twice of a VAULT", x.ask(23, 2), -22);
        x.lock(23, true);
        Due.due("26: CAST before TROUBLE", x.ask(23, 2), -22);
        Due.due("26: twice of a LAYER", x.ask(17, 2), -21);
        Due.due("26: twice of a BLOCK", x.ask(21, 2), -21);
    }
}
