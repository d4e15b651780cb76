import java.io.IOException;
import java.lang.reflect.Method;
import java.lang.reflect.Modifier;
import java.nio.file.Files;
import java.nio.file.Path;
import java.util.Map;
import java.util.TreeMap;
import java.util.regex.Matcher;
import java.util.regex.Pattern;

/** README.md: its example answers what stands behind each call, and it names each call and each constant. */
public final class ReadmeTest {
    private static final Check check = new Check("ReadmeTest");
    private static final Pattern CALL = Pattern.compile("x\\.(\\w+)\\(([-0-9, ]*)\\);\\s+// (LOST|-?[0-9]+)(:.*)?");

    private final PartCurves x = new PartCurves();
    private final Map<String, Method> face = new TreeMap<>();

    private ReadmeTest() {
        for (Method method : PartCurves.class.getDeclaredMethods()) {
            if (Modifier.isPublic(method.getModifiers())) {
                face.put(method.getName(), method);
            }
        }
    }

    public static void main(String[] args) throws IOException, ReflectiveOperationException {
        String text = Files.readString(Path.of("README.md"));
        ReadmeTest test = new ReadmeTest();
        test.example(text);
        test.names(text);
        check.end();
    }

    private void example(String text) throws ReflectiveOperationException {
        for (String line : text.split("\n")) {
            if (!line.startsWith("x.")) {
                continue;
            }
            Matcher call = CALL.matcher(line);
            check.holds("it can be run: " + line, call.matches());
            if (call.matches()) {
                check.due(line, due(call.group(3)), answer(call.group(1), call.group(2)));
            }
        }
    }

    private static long due(String told) {
        return told.equals("LOST") ? PartCurves.LOST : Long.parseLong(told);
    }

    private long answer(String name, String told) throws ReflectiveOperationException {
        String[] numbers = told.isEmpty() ? new String[0] : told.split(", ");
        Object[] given = new Object[numbers.length];
        for (int i = 0; i < numbers.length; i++) {
            given[i] = Integer.parseInt(numbers[i]);
        }
        return ((Number) face.get(name).invoke(x, given)).longValue();
    }

    private void names(String text) {
        for (String name : face.keySet()) {
            check.holds("the example calls " + name, text.contains("\nx." + name + "("));
            check.holds("the table tells " + name, Pattern.compile("\n\\|[^|]*`" + name + "\\(").matcher(text).find());
        }
        for (String told : new String[] {"`UNKNOWN` (" + PartCurves.UNKNOWN, "`OUTSIDE` (" + PartCurves.OUTSIDE,
            "`STATE` (" + PartCurves.STATE, "`FULL` (" + PartCurves.FULL, "`NONE` (" + PartCurves.NONE,
            "`LOST` (`Long.MIN_VALUE`"}) {
            check.holds("it tells " + told, text.contains(told));
        }
    }
}
