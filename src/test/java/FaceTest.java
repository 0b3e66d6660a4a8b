import java.io.IOException;
import java.lang.reflect.Executable;
import java.lang.reflect.Field;
import java.lang.reflect.Method;
import java.lang.reflect.Modifier;
import java.nio.file.Files;
import java.nio.file.Path;
import java.util.Arrays;
import java.util.HashSet;
import java.util.List;
import java.util.Set;
import java.util.regex.Pattern;

/** The face is the document's, nothing more, and the source keeps to what ../shared/LANGUAGE.md leaves. */
public final class FaceTest {
    private static final String INT = "int";
    private static final String[] METHODS = {
        "int row(int,int)", "int array(int,int)", "int list()", "int map()", "int part(int)", "int plain(int)",
        "int copy(int)", "int kind(int)", "int about(int)", "int length(int)", "long get(int,int,int)",
        "int put(int,int,int,long)", "int is(int,int)", "int take(int,int) ClassCastException",
        "int hold(int,int,int,int)", "int held(int,int,int)",
        "int lay(int,int,int) ClassCastException ArrayIndexOutOfBoundsException ArrayStoreException",
        "int spot(int,int) ClassCastException ArrayIndexOutOfBoundsException", "int push(int,int)",
        "int entry(int,int)", "int key(int,int,int)", "int keyed(int,int)", "int lock(int,boolean)",
        "int mark(int,int,int)", "int ask(int,int)", "int find(int,int,int)", "int at(int,int)",
        "int step(int,int,int)", "int under(int,int,int)", "int meter(int)", "int set(int,int)",
        "int each(int,int,long)", "long sum(int,int)", "int keep()", "int back()", "int fails(int)",
        "int count(int)"};
    private static final String[] CONSTANTS = {
        "NONE -1", "NOTHING -21", "CAST -22", "OUT -23", "KIND -24", "SIZE -25", "TROUBLE -26", "FAR -27",
        "UNKNOWN -101", "BAD -102", "FULL -103", "STATE -104"};
    /** What LANGUAGE.md leaves out wherever it stands, as patterns. */
    private static final String[] BARRED = {
        "\\bpackage\\b", "\\bfinally\\b", "\\bassert\\b", "\\bsynchronized\\b", "::", "Exact\\(", "static \\{", "\\bhashCode\\b",
        "\\bgetClass\\b", "\\bThread\\b", "\\bRandom\\b", "\\bSystem\\.(?!arraycopy)", "(?m)^(?!\\s*(case|default)\\b).*->",
        "import (?!java\\.util\\.)", "catch \\([^)]*(ArrayIndex|NullPointer|ClassCast|NegativeArray|ArrayStore|Throwable|Error)"};

    public static void main(String[] args) throws IllegalAccessException, IOException {
        Class<?> face = ParameterFind.class;
        Due.due("public final", face.getModifiers(), Modifier.PUBLIC | Modifier.FINAL);
        Due.due("constructors", face.getDeclaredConstructors().length, 1);
        Due.due("its parameters", face.getConstructors()[0].getParameterCount(), 0);
        methods(face);
        constants(face);
        for (Class<?> inside : face.getDeclaredClasses()) {
            Due.due(inside + " not public", inside.getModifiers() & (Modifier.PUBLIC | Modifier.PROTECTED), 0);
        }
        source();
        Due.end();
    }

    private static void methods(Class<?> face) {
        List<String> due = Arrays.asList(METHODS);
        int seen = 0;
        for (Method method : face.getDeclaredMethods()) {
            if (Modifier.isPrivate(method.getModifiers()) || method.isSynthetic()) {
                continue;
            }
            seen++;
            Due.due(told(method), due.contains(told(method)) ? 1 : 0, 1);
            Due.due(told(method) + " is public", Modifier.isPublic(method.getModifiers()) ? 1 : 0, 1);
            Due.due(told(method) + " is static", Modifier.isStatic(method.getModifiers()) ? 1 : 0, 0);
        }
        Due.due("methods", seen, METHODS.length);
        // no private method bears the name of a public one
        Set<String> open = new HashSet<>();
        for (Method method : face.getMethods()) {
            open.add(method.getName());
        }
        for (Method method : face.getDeclaredMethods()) {
            boolean hidden = Modifier.isPrivate(method.getModifiers());
            Due.due("a private " + method.getName(), hidden && open.contains(method.getName()) ? 1 : 0, 0);
        }
    }

    private static String told(Method method) {
        StringBuilder text = new StringBuilder();
        text.append(method.getReturnType()).append(' ').append(method.getName()).append('(');
        text.append(String.join(",", simpleNames(method.getParameterTypes()))).append(')');
        for (String name : simpleNames(((Executable) method).getExceptionTypes())) {
            text.append(' ').append(name);
        }
        return text.toString();
    }

    private static String[] simpleNames(Class<?>[] types) {
        return Arrays.stream(types).map(Class::getSimpleName).toArray(String[]::new);
    }

    private static void constants(Class<?> face) throws IllegalAccessException {
        List<String> due = Arrays.asList(CONSTANTS);
        int seen = 0;
        for (Field field : face.getDeclaredFields()) {
            if (Modifier.isPrivate(field.getModifiers()) || field.isSynthetic()) {
                continue;
            }
            seen++;
            Due.due(field + " type", field.getType().getName().equals(INT) ? 1 : 0, 1);
            Due.due(field + " due", due.contains(field.getName() + " " + field.getInt(null)) ? 1 : 0, 1);
        }
        Due.due("constants", seen, CONSTANTS.length);
    }

    private static void source() throws IOException {
        String text = Files.readString(Path.of("src/main/java/ParameterFind.java"));
        String code = text.replaceAll("(?s)/\\*.*?\\*/", "").replaceAll("//.*", "").replaceAll("\"[^\"\\n]*\"", "");
        for (String barred : BARRED) {
            Due.due("the source has '" + barred + "'", Pattern.compile(barred).matcher(code).find() ? 1 : 0, 0);
        }
    }
}
