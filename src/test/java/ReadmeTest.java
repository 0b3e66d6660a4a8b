import java.io.IOException;
import java.lang.reflect.Method;
import java.lang.reflect.Modifier;
import java.nio.file.Files;
import java.nio.file.Path;
import java.util.HashMap;
import java.util.HashSet;
import java.util.Map;
import java.util.Set;
import java.util.regex.Matcher;
import java.util.regex.Pattern;

/** Each call that README.md shows answers what stands behind it, and README.md shows every call of the face. */
public final class ReadmeTest {
    private static final Pattern BLOCK = Pattern.compile("(?ms)^```java\\n(.*?)^```$");
    private static final Pattern CALL =
        Pattern.compile("(?:int (\\w+) = )?x\\.(\\w+)\\(([^()]*)\\); +// (throws )?(-?\\w+)(?:: .+)?");
    private static final String MADE = "ParameterFind x = new ParameterFind();";
    private static final Map<String, Class<?>> EXCEPTIONS = Map.of(
        "ClassCastException", Due.CAST_THROWN,
        "ArrayIndexOutOfBoundsException", Due.INDEX_THROWN,
        "ArrayStoreException", Due.STORE_THROWN);

    private final Map<String, Integer> numbers = new HashMap<>();
    private final Set<String> shown = new HashSet<>();
    private Run run;

    public static void main(String[] args) throws IOException {
        String page = Files.readString(Path.of("README.md"));
        ReadmeTest test = new ReadmeTest();
        Matcher block = BLOCK.matcher(page);
        while (block.find()) {
            block.group(1).lines().forEach(test::readLine);
        }
        test.everyCallIsShown();
        Due.looked(page.contains("```sh\n.ci/run\n```") ? null : "README.md does not tell how the tests are run");
        Due.end();
    }

    private void readLine(String line) {
        Matcher call = CALL.matcher(line);
        if (line.equals(MADE)) {
            run = new Run();
            numbers.clear();
        } else if (run != null && call.matches()) {
            make(call);
        } else {
            Due.looked("README.md shows what is no call with its answer: " + line);
        }
    }

    private void make(Matcher call) {
        String name = call.group(2);
        shown.add(name);
        Object want = call.group(4) == null ? (Object) numberOf(call.group(5)) : EXCEPTIONS.get(call.group(5));
        run.outcomeIs(want, name, valuesOf(call.group(3)));
        if (call.group(1) != null) {
            numbers.put(call.group(1), ((Long) want).intValue());
        }
    }

    private Object[] valuesOf(String list) {
        String[] texts = list.isEmpty() ? new String[0] : list.split(", ");
        Object[] values = new Object[texts.length];
        for (int i = 0; i < texts.length; i++) {
            boolean isTruth = texts[i].equals("true") || texts[i].equals("false");
            values[i] = isTruth ? (Object) texts[i].equals("true") : (Object) numberOf(texts[i]);
        }
        return values;
    }

    /** A number that is written out, a constant of the face, or a THING that the page named. */
    private Long numberOf(String text) {
        if (text.matches("-?\\d+L?")) {
            return Long.valueOf(text.replace("L", ""));
        }
        if (numbers.containsKey(text)) {
            return numbers.get(text).longValue();
        }
        try {
            return (long) ParameterFind.class.getField(text).getInt(null);
        } catch (ReflectiveOperationException e) {
            throw new IllegalStateException("README.md does not tell what '" + text + "' is", e);
        }
    }

    private void everyCallIsShown() {
        for (Method method : ParameterFind.class.getDeclaredMethods()) {
            if (Modifier.isPublic(method.getModifiers())) {
                Due.looked(shown.contains(method.getName()) ? null : "README.md does not show " + method.getName());
            }
        }
    }
}
