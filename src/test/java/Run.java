import java.lang.reflect.InvocationTargetException;
import java.lang.reflect.Method;
import java.lang.reflect.Modifier;
import java.util.Arrays;
import java.util.HashMap;
import java.util.Map;

/** An object of the class, called by the names of its calls, at most as often as the document promises answers for. */
final class Run {
    private static final int MOST_CALLS = 512;
    private static final Map<String, Method> CALLS = calls();

    private final ParameterFind object = new ParameterFind();
    private int made;

    private static Map<String, Method> calls() {
        Map<String, Method> calls = new HashMap<>();
        for (Method method : ParameterFind.class.getDeclaredMethods()) {
            if (Modifier.isPublic(method.getModifiers())) {
                calls.put(method.getName(), method);
            }
        }
        return calls;
    }

    /** The call answers just this. */
    Run due(long want, String name, Object... args) {
        return outcomeIs(want, name, args);
    }

    /** The call throws just this class of exception. */
    Run thrown(Class<?> want, String name, Object... args) {
        return outcomeIs(want, name, args);
    }

    /** What is due is a number that the call answers, or the class of an exception that it throws. */
    Run outcomeIs(Object want, String name, Object... args) {
        Object got = outcome(name, args);
        Due.looked(got.equals(want) ? null : told(name, args) + ": " + got + ", due is " + want);
        return this;
    }

    /** A call on the way to what is tested: it is neither refused nor does it find or throw anything. */
    int done(String name, Object... args) {
        Object got = outcome(name, args);
        boolean good = got instanceof Long answer && answer >= 0;
        Due.looked(good ? null : told(name, args) + ": " + got + ", due is no refusal");
        return good ? ((Long) got).intValue() : Due.NONE;
    }

    /** What the call answers; one that throws answers nothing that any call could. */
    long answer(String name, Object... args) {
        Object got = outcome(name, args);
        Due.looked(got instanceof Long ? null : told(name, args) + ": " + got + ", due is an answer");
        return got instanceof Long answer ? answer : -987654321L;
    }

    private Object outcome(String name, Object... args) {
        made++;
        if (made > MOST_CALLS) {
            throw new IllegalStateException("the test calls one object too often");
        }
        try {
            Method method = CALLS.get(name);
            return ((Number) method.invoke(object, fitted(method.getParameterTypes(), args))).longValue();
        } catch (InvocationTargetException e) {
            return e.getCause().getClass();
        } catch (IllegalAccessException e) {
            throw new IllegalStateException(e);
        }
    }

    private static Object[] fitted(Class<?>[] types, Object[] args) {
        Object[] fitted = args.clone();
        for (int i = 0; i < args.length; i++) {
            if (args[i] instanceof Number number) {
                fitted[i] = types[i] == long.class ? (Object) number.longValue() : (Object) number.intValue();
            }
        }
        return fitted;
    }

    private static String told(String name, Object[] args) {
        String list = Arrays.toString(args);
        return name + "(" + list.substring(1, list.length() - 1) + ")";
    }
}
