import java.io.IOException;
import java.lang.reflect.Field;
import java.lang.reflect.Member;
import java.lang.reflect.Method;
import java.lang.reflect.Modifier;
import java.nio.file.Files;
import java.nio.file.Path;
import java.util.ArrayList;
import java.util.HashSet;
import java.util.List;
import java.util.Set;
import java.util.TreeSet;
import java.util.regex.Matcher;
import java.util.regex.Pattern;

/** The face is as the document tells it, and the text keeps to those rules of LANGUAGE.md that can be seen. */
public final class LanguageTest {
    private static final Check check = new Check("LanguageTest");
    private static final String SOURCE = "src/main/java/PartCurves.java";
    private static final String[] FACE = {
        "int part(4)", "int remove(1)", "int set(3)", "int ofPart(2)", "int relay(3)", "int pins(1)",
        "int power(1)", "int limit(1)", "int leads(1)", "int now(1)", "int amps(2)", "int would(2)",
        "int pulse(2)", "int rest(1)", "int sweep(6)", "int why(2)", "int reading(2)", "int clear(0)",
        "int knee(2)", "long fit(3)", "int gap(2)", "int many(1)"};
    private static final String[] FORBIDDEN = {
        "import", "package", "throw", "throws", "try", "catch", "finally", "synchronized", "assert",
        "double", "float", "Object", "System", "equals", "hashCode", "toString", "native", "volatile"};

    public static void main(String[] args) throws IOException {
        facePlain();
        constants();
        insideClasses();
        String text = Files.readString(Path.of(SOURCE));
        words(text);
        loops(text);
        methodLengths(text);
        check.end();
    }

    private static boolean written(Member member) {
        return !member.isSynthetic();
    }

    private static void facePlain() {
        Set<String> due = new TreeSet<>(List.of(FACE));
        Set<String> found = new TreeSet<>();
        Set<String> open = new HashSet<>();
        Set<String> hidden = new HashSet<>();
        for (Method method : PartCurves.class.getDeclaredMethods()) {
            if (!written(method)) {
                continue;
            }
            boolean isPrivate = Modifier.isPrivate(method.getModifiers());
            (isPrivate ? hidden : open).add(method.getName());
            if (!isPrivate) {
                check.holds(method + " is public and of objects", Modifier.isPublic(method.getModifiers())
                        && !Modifier.isStatic(method.getModifiers()));
                found.add(method.getReturnType() + " " + method.getName() + "(" + method.getParameterCount() + ")");
            }
            check.holds(method + " takes at most seven", method.getParameterCount() <= 7);
            for (Class<?> type : method.getParameterTypes()) {
                check.holds(method + " takes ints alone, if it is of the face", isPrivate || type == int.class);
            }
        }
        check.holds("the face is " + found, found.equals(due));
        hidden.retainAll(open);
        check.holds("private ones have names of their own: " + hidden, hidden.isEmpty());
        check.holds("the class is public and final", Modifier.isPublic(PartCurves.class.getModifiers())
                && Modifier.isFinal(PartCurves.class.getModifiers()));
        check.due("constructors", 1, PartCurves.class.getDeclaredConstructors().length);
        check.due("public constructors", 1, PartCurves.class.getConstructors().length);
        check.due("what it takes", 0, PartCurves.class.getDeclaredConstructors()[0].getParameterCount());
    }

    private static void constants() {
        check.due("UNKNOWN", -1, PartCurves.UNKNOWN);
        check.due("OUTSIDE", -2, PartCurves.OUTSIDE);
        check.due("STATE", -3, PartCurves.STATE);
        check.due("FULL", -4, PartCurves.FULL);
        check.due("NONE", -9, PartCurves.NONE);
        check.due("LOST", Long.MIN_VALUE, PartCurves.LOST);
        Set<String> open = new TreeSet<>();
        for (Field field : PartCurves.class.getDeclaredFields()) {
            if (!Modifier.isPrivate(field.getModifiers())) {
                open.add(field.getName());
                check.due(field + " is public, static and final",
                        Modifier.PUBLIC | Modifier.STATIC | Modifier.FINAL, field.getModifiers());
                check.holds(field + " is of its type",
                        field.getType() == (field.getName().equals("LOST") ? long.class : int.class));
            }
        }
        Set<String> due = new TreeSet<>(List.of("UNKNOWN", "OUTSIDE", "STATE", "FULL", "NONE", "LOST"));
        check.holds("fields of the face: " + open, open.equals(due));
    }

    private static void insideClasses() {
        List<Class<?>> all = new ArrayList<>(List.of(PartCurves.class.getDeclaredClasses()));
        check.holds("at most twelve classes", all.size() < 12);
        for (Class<?> inside : all) {
            int how = inside.getModifiers();
            check.holds(inside + " is static and not open", Modifier.isStatic(how)
                    && !Modifier.isPublic(how) && !Modifier.isProtected(how));
        }
        all.add(PartCurves.class);
        for (Class<?> each : all) {
            int fields = 0;
            for (Field field : each.getDeclaredFields()) {
                boolean isStatic = Modifier.isStatic(field.getModifiers());
                check.holds(field + " is final", !isStatic || Modifier.isFinal(field.getModifiers()));
                fields += isStatic ? 0 : 1;
            }
            check.holds(each + " has at most twenty fields", fields <= 20);
        }
    }

    private static String withoutComments(String text) {
        return text.replaceAll("(?s)/\\*.*?\\*/", " ").replaceAll("//[^\n]*", " ");
    }

    private static void words(String text) {
        String bare = withoutComments(text);
        for (String word : FORBIDDEN) {
            check.holds("no " + word, !Pattern.compile("\\b" + word + "\\b").matcher(bare).find());
        }
        check.holds("no lambda", !bare.contains("->"));
        check.holds("no method reference", !bare.contains("::"));
        check.holds("no name that ends in Exact", !bare.contains("Exact"));
        for (char sign : text.toCharArray()) {
            if (sign > 126 || sign < 32 && sign != '\n') {
                check.holds("sign " + (int) sign, false);
            }
        }
    }

    private static void loops(String text) {
        Matcher loop = Pattern.compile("\\bfor \\(([^\n]*)\\) \\{").matcher(text);
        while (loop.find()) {
            check.holds("a counter against a bound: " + loop.group(1), loop.group(1).matches("int \\w+ = .*<.*\\+\\+"));
        }
        check.holds("for alone", !Pattern.compile("\\b(while|do)\\b").matcher(withoutComments(text)).find());
    }

    private static void methodLengths(String text) {
        int start = 0;
        String[] lines = text.split("\n");
        for (int i = 0; i < lines.length; i++) {
            if (lines[i].matches(" {4}( {4})?[^ /*}].*\\{") && !lines[i].contains(" class ")) {
                start = i;
            }
            check.holds("line " + (i + 1) + " is in a short method", !lines[i].matches(" {4}( {4})?\\}") || i - start <= 60);
        }
    }
}
