import java.util.ArrayList;
import java.util.List;

/** Runs of drawn calls (the same ones each time), each answer against that of JavaModel. */
public final class ModelTest {
    private static final int RUNS = 3000;
    /** What later calls on the same object answer is free. */
    private static final int MOST_CALLS = 512;
    /** A finding, and its METER. */
    private static final int MOST_AT_ONCE = 9;
    /** How many calls make the THINGS of a crowded run, and their places. */
    private static final int CROWD = 99;
    private static final long[] EDGES = {
        0, 1, -1, 2, 3, 127, 128, 255, 32768, 65535, 65536, 16777217, Integer.MAX_VALUE, Integer.MIN_VALUE,
        4000000000L, 4000000001L, -4000000000L, -4000000001L, Long.MAX_VALUE, Long.MIN_VALUE, 9007199254740993L};
    private static final int[] FIELDS = {1, 1, 2, 2, 2, 2, 2, 1};
    private static final int[] TAKES = {-1, -1, 1, -1, 5, -1, -1, 17, 4, -1, 16, 16, 13, 9, -1, -1};
    private static final int[] SORT_VIEWS = {16, 17, 18, 20, 21, 5, 4, 2};

    private interface Call {
        long answer();
    }

    private long state;
    private ParameterFind real;
    private JavaModel model;
    /** The PART that the latest finding began with. */
    private int start;
    private int made;
    private int found;
    /** For how many calls PARAMETERS are mostly let stay. */
    private int quiet;
    private String told;
    private final List<String> run = new ArrayList<>();
    private final int[] answers = new int[128];

    public static void main(String[] args) {
        ModelTest test = new ModelTest();
        for (int n = 0; n < RUNS; n++) {
            if (!test.runs(n)) {
                System.exit(1);
            }
        }
        test.allMet();
        Due.end();
    }

    /** A run that never meets a FINDING or REFUSAL would test too little. */
    private void allMet() {
        int[] codes = {21, 22, 23, 24, 25, 26, 27, 101, 102, 103, 104, 121, 122, 123};
        for (int code : codes) {
            Due.due("drawn calls meet " + code + " often", answers[code] > 100 ? 1 : 0, 1);
        }
    }

    private boolean runs(int n) {
        state = 1234567L + n * 7919L;
        real = new ParameterFind();
        model = new JavaModel();
        start = -1;
        made = 0;
        found = 0;
        quiet = 0;
        run.clear();
        int mode = n % 4;
        for (int k = 0; run.size() + MOST_AT_ONCE <= MOST_CALLS; k++) {
            if (!one(k, mode)) {
                System.out.println("run " + n + " differs at its last call:");
                run.forEach(System.out::println);
                return false;
            }
        }
        return true;
    }

    private int draw(int bound) {
        state = state * 6364136223846793005L + 1442695040888963407L;
        return (int) ((state >>> 33) % bound);
    }

    /** Mostly a number of a THING, now and then one beside them. */
    private int t() {
        return draw(40) == 0 ? draw(3) - 2 : made == 0 ? 0 : draw(40) == 0 ? made : draw(made);
    }

    /** Mostly a THING of a KIND, if there is one. */
    private int t(int kind) {
        if (draw(25) == 0) {
            return t();
        }
        int from = t();
        for (int k = 0; k < made; k++) {
            int t = Math.floorMod(from + k, made);
            if (model.kind(t) == kind) {
                return t;
            }
        }
        return from;
    }

    /** Mostly a THING that goes as a VIEW (below 0: any), if there is one. */
    private int loadAs(int view) {
        int from = load();
        if (from < 0 || view < 0 || draw(8) == 0) {
            return from;
        }
        for (int k = 0; k < made; k++) {
            int t = (from + k) % made;
            if (model.is(t, view) == 1) {
                return t;
            }
        }
        return from;
    }

    private int load() {
        return draw(12) == 0 ? -1 : t();
    }

    private int within(int bound) {
        return draw(30) == 0 ? (draw(2) == 0 ? -1 : bound) : draw(bound);
    }

    private long word() {
        return draw(4) == 0 ? EDGES[draw(EDGES.length)] : draw(2) == 0 ? draw(200) - 100 : (long) draw(1 << 30) * draw(64);
    }

    private boolean one(int k, int mode) {
        int making = mode == 1 ? CROWD : mode == 2 ? 85 : 25;
        if (k < making) {
            return mode == 1 ? crowding(k) : making();
        }
        if (k < making + 50) {
            return holding(draw(5));
        }
        if (quiet == 0) {
            quiet = draw(60);
            return finding();
        }
        quiet--;
        int what = draw(100);
        if (what < 3) {
            return making();
        }
        if (what < 6 || quiet < 10) {
            return holding(draw(7));
        }
        if (what < 24) {
            return reading(draw(12));
        }
        return what < 80 ? found(draw(8)) : changing(draw(6));
    }

    /** A PART with a LIST of four LISTS of 44 ROWS, so that a finding from it is FULL by some RULES. */
    private boolean crowding(int k) {
        if (k == 0) {
            return same("part(1)", () -> real.part(1), () -> model.part(1));
        }
        if (k < 6) {
            return same("list()", () -> real.list(), () -> model.list());
        }
        if (k < 50) {
            int lane = draw(8);
            int n = draw(6);
            return same("row(" + lane + ", " + n + ")", () -> real.row(lane, n), () -> model.row(lane, n));
        }
        if (k == 50) {
            return same("hold(0, 1, 0, 1)", () -> real.hold(0, 1, 0, 1), () -> model.hold(0, 1, 0, 1));
        }
        int list = k < 55 ? 1 : 2 + k % 4;
        int t = k - 49;
        return same("push(" + list + ", " + t + ")", () -> real.push(list, t), () -> model.push(list, t));
    }

    private boolean making() {
        int kind = draw(8);
        int a;
        int b;
        switch (kind) {
            case 0:
                a = within(8);
                b = draw(20) == 0 ? draw(3) * 13 - 1 : draw(6);
                return same("row(" + a + ", " + b + ")", () -> real.row(a, b), () -> model.row(a, b));
            case 1:
                a = within(8);
                b = draw(20) == 0 ? draw(3) * 7 - 1 : draw(5);
                return same("array(" + a + ", " + b + ")", () -> real.array(a, b), () -> model.array(a, b));
            case 2:
                return same("list()", () -> real.list(), () -> model.list());
            case 3:
                return same("map()", () -> real.map(), () -> model.map());
            case 4:
                a = draw(30) - 15;
                return same("plain(" + a + ")", () -> real.plain(a), () -> model.plain(a));
            case 5:
                a = t(0);
                return same("copy(" + a + ")", () -> real.copy(a), () -> model.copy(a));
            default:
                a = draw(20) == 0 ? draw(2) * 8 : 1 + draw(7);
                return same("part(" + a + ")", () -> real.part(a), () -> model.part(a));
        }
    }

    private boolean holding(int which) {
        int a;
        int d;
        switch (which) {
            case 0:
            case 1:
                return fieldHolding(t(4));
            case 2:
                a = t(1);
                int i = within(4);
                d = loadAs(model.kind(a) == 1 ? SORT_VIEWS[model.about(a)] : -1);
                return same("lay(" + a + ", " + i + ", " + d + ")", () -> real.lay(a, i, d), () -> model.lay(a, i, d));
            case 3:
                a = t(2);
                d = load();
                return same("push(" + a + ", " + d + ")", () -> real.push(a, d), () -> model.push(a, d));
            case 4:
                a = t(3);
                d = load();
                int k = draw(30) == 0 ? draw(2) * 1001 - 1 : draw(12) * 90;
                return same("key(" + a + ", " + k + ", " + d + ")", () -> real.key(a, k, d), () -> model.key(a, k, d));
            default:
                int cls = draw(8);
                return marking(cls, draw(20) == 0 ? within(3) : draw(FIELDS[cls]));
        }
    }

    private boolean fieldHolding(int p) {
        int cls = within(8);
        for (int k = 0; k < 20 && draw(40) > 0 && model.is(p, 16 + cls) != 1; k++) {
            cls = draw(8);
        }
        int teller = cls;
        boolean known = cls >= 0 && cls < 8;
        int f = !known || draw(20) == 0 ? within(3) : draw(FIELDS[cls]);
        int d = loadAs(known && f >= 0 && f < 2 ? TAKES[2 * cls + f] : -1);
        return same("hold(" + p + ", " + cls + ", " + f + ", " + d + ")",
            () -> real.hold(p, teller, f, d), () -> model.hold(p, teller, f, d));
    }

    private boolean marking(int cls, int f) {
        if (draw(2) == 0) {
            int a = t(4);
            boolean shut = draw(2) == 0;
            return same("lock(" + a + ", " + shut + ")", () -> real.lock(a, shut), () -> model.lock(a, shut));
        }
        int m = draw(3) == 0 ? within(8) : draw(2) * (1 << draw(3));
        return same("mark(" + cls + ", " + f + ", " + m + ")", () -> real.mark(cls, f, m), () -> model.mark(cls, f, m));
    }

    private boolean finding() {
        int p = draw(3) == 0 ? 0 : t(4);
        int rule = draw(2) == 0 ? 0 : within(5);
        int n = draw(10) - 1;
        boolean good = same("find(" + p + ", " + rule + ", " + n + ")",
            () -> real.find(p, rule, n), () -> model.find(p, rule, n));
        if (model.kind(p) == 4 && rule >= 0 && rule < 5) {
            start = p;
        }
        return good && metersAreSame();
    }

    private boolean metersAreSame() {
        for (int w = 0; w < 8; w++) {
            int what = w;
            if (!same("meter(" + w + ")", () -> real.meter(what), () -> model.meter(what))) {
                return false;
            }
        }
        return true;
    }

    private boolean reading(int which) {
        int a = t();
        int b = within(29);
        int c = within(8);
        int d = within(3);
        switch (which) {
            case 0:
                return same("kind(" + a + ")", () -> real.kind(a), () -> model.kind(a));
            case 1:
                return same("about(" + a + ")", () -> real.about(a), () -> model.about(a));
            case 2:
                return same("length(" + a + ")", () -> real.length(a), () -> model.length(a));
            case 3:
                return same("is(" + a + ", " + b + ")", () -> real.is(a, b), () -> model.is(a, b));
            case 4:
                return same("take(" + a + ", " + b + ")", () -> real.take(a, b), () -> model.take(a, b));
            case 5:
                return same("held(" + a + ", " + c + ", " + d + ")",
                    () -> real.held(a, c, d), () -> model.held(a, c, d));
            case 6:
                return same("spot(" + a + ", " + d + ")", () -> real.spot(a, d), () -> model.spot(a, d));
            case 7:
                return same("entry(" + a + ", " + d + ")", () -> real.entry(a, d), () -> model.entry(a, d));
            case 8:
                int k = draw(12) * 90;
                return same("keyed(" + a + ", " + k + ")", () -> real.keyed(a, k), () -> model.keyed(a, k));
            case 9:
                return same("fails(" + c + ")", () -> real.fails(c), () -> model.fails(c));
            case 10:
                int w = within(4);
                return same("count(" + w + ")", () -> real.count(w), () -> model.count(w));
            default:
                int p = t(4);
                return same("ask(" + p + ", " + d + ")", () -> real.ask(p, d), () -> model.ask(p, d));
        }
    }

    /** Of PARAMETERS, as many as there are at times. */
    private boolean found(int which) {
        int i = within(Math.max(1, found));
        int k = draw(6);
        switch (which) {
            case 0:
            case 1:
                int w = within(6);
                return same("at(" + i + ", " + w + ")", () -> real.at(i, w), () -> model.at(i, w));
            case 2:
            case 3:
                int s = within(2);
                return same("step(" + i + ", " + k + ", " + s + ")", () -> real.step(i, k, s), () -> model.step(i, k, s));
            case 4:
                int u = within(3);
                return same("under(" + i + ", " + k + ", " + u + ")",
                    () -> real.under(i, k, u), () -> model.under(i, k, u));
            case 5:
                int as = draw(8) == 0 ? within(8) : 3 + 2 * draw(2);
                return same("sum(" + i + ", " + as + ")", () -> real.sum(i, as), () -> model.sum(i, as));
            case 6:
                int act = within(4);
                long v = word();
                return same("each(" + i + ", " + act + ", " + v + ")",
                    () -> real.each(i, act, v), () -> model.each(i, act, v));
            default:
                int t = t(0);
                return same("set(" + i + ", " + t + ")", () -> real.set(i, t), () -> model.set(start, i, t));
        }
    }

    private boolean changing(int which) {
        if (which == 0) {
            return same("keep()", () -> real.keep(), () -> model.keep());
        }
        if (which == 1) {
            return same("back()", () -> real.back(), () -> model.back());
        }
        int a = t(0);
        int i = within(3);
        int as = draw(2) == 0 ? model.about(a) : within(8);
        if (which < 4) {
            return same("get(" + a + ", " + i + ", " + as + ")", () -> real.get(a, i, as), () -> model.get(a, i, as));
        }
        long v = word();
        return same("put(" + a + ", " + i + ", " + as + ", " + v + ")",
            () -> real.put(a, i, as, v), () -> model.put(a, i, as, v));
    }

    private boolean same(String call, Call real, Call model) {
        long got = answerOf(real);
        String gotTold = told;
        long want = answerOf(model);
        run.add("  " + call + " answered " + gotTold + ", due is " + told);
        made = this.model.count(0);
        found = this.model.count(1);
        if (want < -20 && want > -128) {
            answers[(int) -want]++;
        }
        return got == want && gotTold.equals(told);
    }

    private long answerOf(Call call) {
        try {
            long answer = call.answer();
            told = Long.toString(answer);
            return answer;
        } catch (ClassCastException e) {
            told = "throws.ClassCastException";
            return -121;
        } catch (ArrayIndexOutOfBoundsException e) {
            told = "throws.ArrayIndexOutOfBoundsException";
            return -122;
        } catch (ArrayStoreException e) {
            told = "throws.ArrayStoreException";
            return -123;
        }
    }
}
