import java.lang.reflect.Array;
import java.lang.reflect.Field;
import java.util.ArrayList;
import java.util.Arrays;
import java.util.IdentityHashMap;
import java.util.LinkedHashMap;
import java.util.List;
import java.util.Map;
import java.util.TreeMap;

/**
 * The document a second time, for ModelTest: THINGS are real Java arrays, lists, maps and objects of classes that hide
 * fields, gone through by reflection, so that Java itself says what WIDENS, what a FIELD takes, what is stored, what
 * a VIEW is. Its calls may throw what the machine throws.
 */
final class JavaModel {
    static final int NOTHING = -21, CAST = -22, OUT = -23, KIND = -24, SIZE = -25, TROUBLE = -26, FAR = -27;
    static final int UNKNOWN = -101, BAD = -102, FULL = -103, STATE = -104;

    /** What SIZE finds. */
    private static final class Found extends RuntimeException {
        private static final long serialVersionUID = 1;
        final int finding;

        Found(int finding) {
            super(null, null, false, false);
            this.finding = finding;
        }
    }

    private static final class Overflow extends RuntimeException {
        private static final long serialVersionUID = 1;
    }

    interface Sized {
    }

    abstract static class Part {
        Object note;

        int size(int depth) {
            return 0;
        }

        int title() {
            return 100 * CLASSES.indexOf(getClass());
        }

        static int sizeWithin(Part part, int depth) {
            if (part == null) {
                throw new Found(NOTHING);
            }
            if (depth + 1 == 11) {
                throw new Found(FAR);
            }
            return part.size(depth + 1);
        }

        static int lengthOf(Object array) {
            if (array == null) {
                throw new Found(NOTHING);
            }
            if (!array.getClass().isArray()) {
                throw new Found(KIND);
            }
            return Array.getLength(array);
        }
    }

    static class Layer extends Part implements Sized {
        Object weight;

        @Override
        int size(int depth) {
            return lengthOf(weight);
        }
    }

    static class Dense extends Layer {
        double[] weight;
        Object bias;

        @Override
        int title() {
            return super.title() + 1;
        }
    }

    static class Deep extends Dense {
        Object weight;
        Layer inner;

        @Override
        int size(int depth) {
            return super.size(depth) + sizeWithin(inner, depth);
        }
    }

    static class Norm extends Layer {
        float[] scale;
        Object note;

        @Override
        int size(int depth) {
            return 2 * lengthOf(scale);
        }
    }

    static class Block extends Part implements Sized {
        Part left;
        Part right;

        @Override
        int size(int depth) {
            return sizeWithin(left, depth) + sizeWithin(right, depth);
        }

        @Override
        int title() {
            return super.title() + 2;
        }
    }

    static class Bank extends Block {
        double[][] table;
        Layer[] stack;

        @Override
        int size(int depth) {
            return super.size(depth) + lengthOf(table);
        }

        @Override
        int title() {
            return super.title() * 3;
        }
    }

    static class Vault extends Part {
        Object secret;
        boolean shut;

        @Override
        int size(int depth) {
            if (shut) {
                throw new Found(TROUBLE);
            }
            return 7;
        }
    }

    private record Number(int value) {
    }

    private static final class Parameter {
        Object row;
        List<Integer> path;
        boolean frozen;
        int again;
    }

    private static final List<Class<?>> CLASSES = List.of(
        Part.class, Layer.class, Dense.class, Deep.class, Norm.class, Block.class, Bank.class, Vault.class);
    private static final String[][] FIELDS = {
        {"note"}, {"weight"}, {"weight", "bias"}, {"weight", "inner"}, {"scale", "note"}, {"left", "right"},
        {"table", "stack"}, {"secret"}};
    private static final Class<?>[] LANES = {
        byte.class, short.class, int.class, long.class, float.class, double.class, boolean.class, char.class};
    private static final Class<?>[] SORTS = {
        Part.class, Layer.class, Dense.class, Norm.class, Block.class, double[].class, float[].class, int[].class};
    private static final Class<?>[] VIEWS = {
        byte[].class, short[].class, int[].class, long[].class, float[].class, double[].class, boolean[].class,
        char[].class, Part[].class, Layer[].class, Dense[].class, Norm[].class, Block[].class, double[][].class,
        float[][].class, int[][].class, Part.class, Layer.class, Dense.class, Deep.class, Norm.class, Block.class,
        Bank.class, Vault.class, Sized.class, Sized[].class, Number.class, ArrayList.class, TreeMap.class};

    private final List<Object> things = new ArrayList<>();
    private final IdentityHashMap<Object, Integer> numbers = new IdentityHashMap<>();
    private final Map<Field, Integer> marks = new LinkedHashMap<>();
    private final List<Parameter> parameters = new ArrayList<>();
    private final int[] meter = {0, 0, 0, 0, 0, 0, 0, -1};
    private final int[] fails = new int[8];
    private final IdentityHashMap<Object, Object> kept = new IdentityHashMap<>();
    private final IdentityHashMap<Object, Boolean> met = new IdentityHashMap<>();
    private int began;

    private int add(Object thing) {
        numbers.put(thing, things.size());
        things.add(thing);
        return things.size() - 1;
    }

    private Object thing(int t) {
        return t >= 0 && t < things.size() ? things.get(t) : null;
    }

    private int number(Object thing) {
        return thing == null ? -1 : numbers.get(thing);
    }

    private int found(int finding) {
        fails[0]++;
        fails[-20 - finding]++;
        return finding;
    }

    private static boolean isRow(Object thing) {
        return thing.getClass().isArray() && thing.getClass().getComponentType().isPrimitive();
    }

    private static int lane(Object row) {
        return Arrays.asList(LANES).indexOf(row.getClass().getComponentType());
    }

    private static Field field(int cls, int f) {
        if (cls < 0 || cls >= FIELDS.length || f < 0 || f >= FIELDS[cls].length) {
            return null;
        }
        try {
            return CLASSES.get(cls).getDeclaredField(FIELDS[cls][f]);
        } catch (NoSuchFieldException e) {
            throw new IllegalStateException(e);
        }
    }

    private static Object read(Field field, Object part) {
        try {
            return field.get(part);
        } catch (IllegalAccessException e) {
            throw new IllegalStateException(e);
        }
    }

    /** Whether the FIELD takes it. */
    private static boolean write(Field field, Object part, Object value) {
        try {
            field.set(part, value);
            return true;
        } catch (IllegalArgumentException e) {
            return false;
        } catch (IllegalAccessException e) {
            throw new IllegalStateException(e);
        }
    }

    int row(int lane, int n) {
        if (lane < 0 || lane > 7 || n > 24) {
            return BAD;
        }
        return things.size() == 80 ? FULL : n < 0 ? found(SIZE) : add(Array.newInstance(LANES[lane], n));
    }

    int array(int sort, int n) {
        if (sort < 0 || sort > 7 || n > 12) {
            return BAD;
        }
        return things.size() == 80 ? FULL : n < 0 ? found(SIZE) : add(Array.newInstance(SORTS[sort], n));
    }

    int list() {
        return things.size() == 80 ? FULL : add(new ArrayList<Object>());
    }

    int map() {
        return things.size() == 80 ? FULL : add(new TreeMap<Integer, Object>());
    }

    int part(int cls) {
        if (cls < 1 || cls > 7) {
            return BAD;
        }
        if (things.size() == 80) {
            return FULL;
        }
        Part[] made = {new Layer(), new Dense(), new Deep(), new Norm(), new Block(), new Bank(), new Vault()};
        return add(made[cls - 1]);
    }

    int plain(int v) {
        return things.size() == 80 ? FULL : add(new Number(v));
    }

    private static Object cloned(Object row) {
        Object twin = Array.newInstance(row.getClass().getComponentType(), Array.getLength(row));
        System.arraycopy(row, 0, twin, 0, Array.getLength(row));
        return twin;
    }

    int copy(int t) {
        if (thing(t) == null) {
            return UNKNOWN;
        }
        return things.size() == 80 ? FULL : isRow(thing(t)) ? add(cloned(thing(t))) : found(KIND);
    }

    int kind(int t) {
        Object thing = thing(t);
        if (thing == null) {
            return UNKNOWN;
        }
        if (thing.getClass().isArray()) {
            return isRow(thing) ? 0 : 1;
        }
        return thing instanceof List ? 2 : thing instanceof Map ? 3 : thing instanceof Part ? 4 : 5;
    }

    int about(int t) {
        Object thing = thing(t);
        switch (kind(t)) {
            case 0:
                return lane(thing);
            case 1:
                return Arrays.asList(SORTS).indexOf(thing.getClass().getComponentType());
            case 2:
                return ((List<?>) thing).size();
            case 3:
                return ((Map<?, ?>) thing).size();
            case 4:
                return CLASSES.indexOf(thing.getClass());
            case 5:
                return ((Number) thing).value();
            default:
                return UNKNOWN;
        }
    }

    int length(int t) {
        if (thing(t) == null) {
            return UNKNOWN;
        }
        return thing(t).getClass().isArray() ? Array.getLength(thing(t)) : found(KIND);
    }

    /** Throws IllegalArgumentException where a LANE does not WIDEN. */
    private static long word(Object row, int i, int as) {
        switch (as) {
            case 0:
                return Array.getByte(row, i);
            case 1:
                return Array.getShort(row, i);
            case 2:
                return Array.getInt(row, i);
            case 3:
                return Array.getLong(row, i);
            case 4:
                return (long) ((double) Array.getFloat(row, i) * 4);
            case 5:
                return (long) (Array.getDouble(row, i) * 4);
            case 6:
                return Array.getBoolean(row, i) ? 1 : 0;
            default:
                return Array.getChar(row, i);
        }
    }

    private static void make(Object row, int i, int as, long v) {
        switch (as) {
            case 0:
                Array.setByte(row, i, (byte) v);
                return;
            case 1:
                Array.setShort(row, i, (short) v);
                return;
            case 2:
                Array.setInt(row, i, (int) v);
                return;
            case 3:
                Array.setLong(row, i, v);
                return;
            case 4:
                Array.setFloat(row, i, (float) (v / 4.0));
                return;
            case 5:
                Array.setDouble(row, i, v / 4.0);
                return;
            case 6:
                Array.setBoolean(row, i, v % 2 != 0);
                return;
            default:
                Array.setChar(row, i, (char) v);
        }
    }

    long get(int t, int i, int as) {
        if (thing(t) == null) {
            return UNKNOWN;
        }
        if (as < 0 || as > 7) {
            return BAD;
        }
        if (!isRow(thing(t))) {
            return found(KIND);
        }
        if (i < 0 || i >= Array.getLength(thing(t))) {
            return found(OUT);
        }
        try {
            return word(thing(t), i, as);
        } catch (IllegalArgumentException e) {
            return found(KIND);
        }
    }

    int put(int t, int i, int as, long v) {
        if (thing(t) == null) {
            return UNKNOWN;
        }
        if (as < 0 || as > 7 || (as == 4 || as == 5) && (v > 4000000000L || v < -4000000000L)) {
            return BAD;
        }
        if (!isRow(thing(t))) {
            return found(KIND);
        }
        if (i < 0 || i >= Array.getLength(thing(t))) {
            return found(OUT);
        }
        try {
            make(thing(t), i, as, v);
            return 1;
        } catch (IllegalArgumentException e) {
            return found(KIND);
        }
    }

    int is(int t, int view) {
        if (thing(t) == null) {
            return UNKNOWN;
        }
        return view < 0 || view > 28 ? BAD : VIEWS[view].isInstance(thing(t)) ? 1 : 0;
    }

    int take(int t, int view) {
        if (thing(t) == null) {
            return UNKNOWN;
        }
        if (view < 0 || view > 28) {
            return BAD;
        }
        VIEWS[view].cast(thing(t));
        return kind(t);
    }

    int hold(int p, int cls, int f, int t) {
        if (thing(p) == null || t != -1 && thing(t) == null) {
            return UNKNOWN;
        }
        Field field = field(cls, f);
        if (field == null) {
            return BAD;
        }
        if (!field.getDeclaringClass().isInstance(thing(p)) || !write(field, thing(p), thing(t))) {
            return found(CAST);
        }
        parameters.clear();
        return 1;
    }

    int held(int p, int cls, int f) {
        if (thing(p) == null) {
            return UNKNOWN;
        }
        Field field = field(cls, f);
        if (field == null) {
            return BAD;
        }
        return field.getDeclaringClass().isInstance(thing(p)) ? number(read(field, thing(p))) : found(CAST);
    }

    int lay(int a, int i, int t) {
        if (thing(a) == null || t != -1 && thing(t) == null) {
            return UNKNOWN;
        }
        if (thing(a) instanceof double[][] rows) {
            rows[i] = (double[]) thing(t);
        } else if (thing(a) instanceof float[][] rows) {
            rows[i] = (float[]) thing(t);
        } else if (thing(a) instanceof int[][] rows) {
            rows[i] = (int[]) thing(t);
        } else {
            ((Part[]) thing(a))[i] = (Part) thing(t);
        }
        parameters.clear();
        return 1;
    }

    int spot(int a, int i) {
        return thing(a) == null ? UNKNOWN : number(((Object[]) thing(a))[i]);
    }

    @SuppressWarnings("unchecked")
    int push(int l, int t) {
        if (thing(l) == null || t != -1 && thing(t) == null) {
            return UNKNOWN;
        }
        if (!(thing(l) instanceof List)) {
            return found(CAST);
        }
        List<Object> list = (List<Object>) thing(l);
        if (list.size() == 12) {
            return FULL;
        }
        list.add(thing(t));
        parameters.clear();
        return list.size();
    }

    int entry(int l, int i) {
        if (thing(l) == null) {
            return UNKNOWN;
        }
        if (!(thing(l) instanceof List<?> list)) {
            return found(CAST);
        }
        return i < 0 || i >= list.size() ? found(OUT) : number(list.get(i));
    }

    @SuppressWarnings("unchecked")
    int key(int m, int k, int t) {
        if (thing(m) == null || t != -1 && thing(t) == null) {
            return UNKNOWN;
        }
        if (k < 0 || k > 999) {
            return BAD;
        }
        if (!(thing(m) instanceof TreeMap)) {
            return found(CAST);
        }
        TreeMap<Integer, Object> map = (TreeMap<Integer, Object>) thing(m);
        if (t == -1) {
            map.remove(k);
        } else if (map.size() == 8 && !map.containsKey(k)) {
            return FULL;
        } else {
            map.put(k, thing(t));
        }
        parameters.clear();
        return map.size();
    }

    int keyed(int m, int k) {
        if (thing(m) == null) {
            return UNKNOWN;
        }
        return thing(m) instanceof TreeMap<?, ?> map ? number(map.get(k)) : found(CAST);
    }

    int lock(int p, boolean shut) {
        if (thing(p) == null) {
            return UNKNOWN;
        }
        if (!(thing(p) instanceof Vault vault)) {
            return found(CAST);
        }
        int before = vault.shut ? 1 : 0;
        vault.shut = shut;
        parameters.clear();
        return before;
    }

    int mark(int cls, int f, int changed) {
        Field field = field(cls, f);
        if (field == null || changed < 0 || changed > 7) {
            return BAD;
        }
        Integer before = marks.put(field, changed);
        parameters.clear();
        return before == null ? 0 : before;
    }

    int ask(int p, int q) {
        if (thing(p) == null) {
            return UNKNOWN;
        }
        if (q < 0 || q > 2) {
            return BAD;
        }
        if (!(thing(p) instanceof Part part) || q == 2 && !(part instanceof Sized)) {
            return found(CAST);
        }
        try {
            return q == 1 ? part.title() : (q == 2 ? 2 : 1) * part.size(1);
        } catch (Found e) {
            return found(e.finding);
        }
    }

    int find(int p, int rule, int n) {
        if (thing(p) == null) {
            return UNKNOWN;
        }
        if (rule < 0 || rule > 4) {
            return BAD;
        }
        if (!(thing(p) instanceof Part)) {
            return found(CAST);
        }
        began++;
        parameters.clear();
        met.clear();
        Arrays.fill(meter, 0);
        meter[7] = -1;
        met.put(thing(p), true);
        try {
            enter(thing(p), new ArrayList<>(), rule, n);
        } catch (Overflow e) {
            parameters.clear();
            return FULL;
        }
        return parameters.size();
    }

    private void enter(Object part, List<Integer> path, int rule, int n) {
        meter[0]++;
        for (int cls = 0; cls < 8; cls++) {
            for (int f = 0; CLASSES.get(cls).isInstance(part) && f < FIELDS[cls].length; f++) {
                Field field = field(cls, f);
                if ((marks.getOrDefault(field, 0) & 2) != 0) {
                    meter[5]++;
                } else if (cls == 7 && ((Vault) part).shut) {
                    meter[6]++;
                    meter[7] = number(part);
                } else {
                    comeTo(read(field, part), longer(path, 10 * cls + f), rule, n);
                }
            }
        }
    }

    /** A STEP is a thousand times what it is, and its number. */
    private static List<Integer> longer(List<Integer> path, int step) {
        List<Integer> made = new ArrayList<>(path);
        made.add(step);
        return made;
    }

    private void comeTo(Object thing, List<Integer> path, int rule, int n) {
        if (thing == null) {
            meter[1]++;
        } else if (thing instanceof Number) {
            meter[3]++;
        } else if (isRow(thing)) {
            comeToRow(thing, path, rule, n);
        } else if (met.put(thing, true) != null) {
            meter[2]++;
        } else if (thing instanceof Object[] array) {
            for (int i = 0; i < array.length; i++) {
                comeTo(array[i], longer(path, 1000 + i), rule, n);
            }
        } else if (thing instanceof List<?> list) {
            for (int i = 0; i < list.size(); i++) {
                comeTo(list.get(i), longer(path, 2000 + i), rule, n);
            }
        } else if (thing instanceof TreeMap<?, ?> map) {
            for (Object k : map.keySet()) {
                comeTo(map.get(k), longer(path, 3000 + (Integer) k), rule, n);
            }
        } else {
            enter(thing, path, rule, n);
        }
    }

    private void comeToRow(Object row, List<Integer> path, int rule, int n) {
        int lane = lane(row);
        boolean[] takes = {true, lane == 4 || lane == 5, Array.getLength(row) >= n, lane == n, lane != 6 && lane != n};
        if (!takes[rule]) {
            meter[4]++;
            return;
        }
        for (Parameter known : parameters) {
            if (known.row == row) {
                known.again++;
                meter[2]++;
                return;
            }
        }
        if (parameters.size() == 40) {
            throw new Overflow();
        }
        Parameter made = new Parameter();
        made.row = row;
        made.path = path;
        for (int step : path) {
            made.frozen |= step < 1000 && (marks.getOrDefault(field(step / 10, step % 10), 0) & 1) != 0;
        }
        parameters.add(made);
    }

    private Parameter parameter(int i) {
        return i >= 0 && i < parameters.size() ? parameters.get(i) : null;
    }

    int at(int i, int what) {
        Parameter p = parameter(i);
        if (p == null || what < 0 || what > 5) {
            return BAD;
        }
        int[] told = {number(p.row), lane(p.row), Array.getLength(p.row), p.frozen ? 1 : 0, p.path.size(), p.again};
        return told[what];
    }

    int step(int i, int k, int what) {
        Parameter p = parameter(i);
        if (p == null || k < 0 || k >= p.path.size() || what < 0 || what > 1) {
            return BAD;
        }
        return what == 0 ? p.path.get(k) / 1000 : p.path.get(k) % 1000;
    }

    int under(int i, int n, int what) {
        Parameter p = parameter(i);
        if (p == null || n < 0 || n > p.path.size() || what < 0 || what > 2) {
            return BAD;
        }
        int total = 0;
        for (Parameter q : parameters) {
            if (q.path.size() >= n && q.path.subList(0, n).equals(p.path.subList(0, n))) {
                total += what == 0 ? 1 : what == 1 ? Array.getLength(q.row) : q.frozen ? 1 : 0;
            }
        }
        return total;
    }

    int meter(int what) {
        return what < 0 || what > 7 ? BAD : meter[what];
    }

    /** Goes the PATH once more to its last place, from the PART that was begun with. */
    @SuppressWarnings("unchecked")
    int set(int start, int i, int t) {
        Parameter p = parameter(i);
        if (p == null) {
            return BAD;
        }
        Object row = thing(t);
        if (row == null) {
            return UNKNOWN;
        }
        if (!isRow(row)) {
            return found(KIND);
        }
        Object holder = thing(start);
        for (int k = 0; k < p.path.size() - 1; k++) {
            holder = next(holder, p.path.get(k));
        }
        int last = p.path.get(p.path.size() - 1);
        int index = last % 1000;
        if (last < 1000) {
            Field field = field(index / 10, index % 10);
            if ((marks.getOrDefault(field, 0) & 4) != 0) {
                return STATE;
            }
            if (!write(field, holder, row)) {
                return found(CAST);
            }
        } else if (last < 2000) {
            if (!holder.getClass().getComponentType().isInstance(row)) {
                return found(CAST);
            }
            ((Object[]) holder)[index] = row;
        } else if (last < 3000) {
            ((List<Object>) holder).set(index, row);
        } else {
            ((Map<Integer, Object>) holder).put(index, row);
        }
        p.row = row;
        return 1;
    }

    private static Object next(Object holder, int step) {
        int index = step % 1000;
        switch (step / 1000) {
            case 0:
                return read(field(index / 10, index % 10), holder);
            case 1:
                return ((Object[]) holder)[index];
            case 2:
                return ((List<?>) holder).get(index);
            default:
                return ((Map<?, ?>) holder).get(index);
        }
    }

    int each(int i, int act, long v) {
        Parameter p = parameter(i);
        if (p == null || act < 0 || act > 3) {
            return BAD;
        }
        if (p.frozen) {
            return STATE;
        }
        int lane = lane(p.row);
        if (lane == 6) {
            return found(KIND);
        }
        for (int k = 0; k < Array.getLength(p.row); k++) {
            long own = word(p.row, k, lane);
            long made = act == 0 ? own + v : act == 1 ? own * v : act == 2 ? v - own : own < v ? own : v;
            if (lane == 4 || lane == 5) {
                made = made > 4000000000L ? 4000000000L : made < -4000000000L ? -4000000000L : made;
            }
            make(p.row, k, lane, made);
        }
        return Array.getLength(p.row);
    }

    long sum(int i, int as) {
        Parameter p = parameter(i);
        if (p == null || as != 3 && as != 5) {
            return BAD;
        }
        long whole = 0;
        double real = 0;
        try {
            for (int k = 0; k < Array.getLength(p.row); k++) {
                whole += as == 3 ? Array.getLong(p.row, k) : 0;
                real += as == 5 ? Array.getDouble(p.row, k) : 0;
            }
        } catch (IllegalArgumentException e) {
            return found(KIND);
        }
        return as == 3 ? whole : (long) (real * 4);
    }

    int keep() {
        kept.clear();
        for (Parameter p : parameters) {
            kept.put(p.row, cloned(p.row));
        }
        return kept.size();
    }

    int back() {
        for (Object row : kept.keySet()) {
            System.arraycopy(kept.get(row), 0, row, 0, Array.getLength(row));
        }
        return kept.size();
    }

    int fails(int what) {
        return what < 0 || what > 7 ? BAD : fails[what];
    }

    int count(int what) {
        int[] told = {things.size(), parameters.size(), began, kept.size()};
        return what < 0 || what > 3 ? BAD : told[what];
    }
}
