import java.lang.reflect.Constructor;
import java.lang.reflect.Field;
import java.lang.reflect.Member;
import java.lang.reflect.Method;
import java.lang.reflect.Modifier;
import java.nio.charset.StandardCharsets;
import java.nio.file.Files;
import java.nio.file.Path;
import java.util.ArrayList;
import java.util.Arrays;
import java.util.List;
import java.util.Set;
import java.util.TreeSet;
import java.util.regex.Matcher;
import java.util.regex.Pattern;
import java.util.stream.Collectors;

/** The public face, and those rules of LANGUAGE.md that can be seen by looking at the class or its text. */
public final class FaceTest {
    private static final Check check = new Check("FaceTest");

    private static final String[] FACE = {
        "int begin(int) throws IllegalArgumentException",
        "boolean setDoor(int, int, boolean) throws IndexOutOfBoundsException, IllegalArgumentException",
        "boolean isOpen(int, int) throws IndexOutOfBoundsException",
        "int addFuel(int) throws IllegalArgumentException",
        "int setTarget(int) throws IllegalArgumentException",
        "int set(int, int) throws IllegalArgumentException",
        "int setSmoke(int, int) throws IndexOutOfBoundsException, IllegalArgumentException",
        "int info(int) throws IllegalArgumentException",
        "int room(int, int) throws IndexOutOfBoundsException, IllegalArgumentException",
        "int addSensor(int, int, int, int, int) throws IndexOutOfBoundsException, IllegalArgumentException, "
            + "IllegalStateException",
        "int setFault(int, int) throws IndexOutOfBoundsException, IllegalArgumentException",
        "int sensor(int, int) throws IndexOutOfBoundsException, IllegalArgumentException",
        "int addRule(int, int, int, int) throws IndexOutOfBoundsException, IllegalArgumentException, "
            + "IllegalStateException",
        "int removeRule(int) throws IndexOutOfBoundsException",
        "int applying()",
        "int addEvent(int, int, int, int) throws IllegalArgumentException, IllegalStateException",
        "int event(int, int) throws IllegalArgumentException",
        "int mute(int, int) throws IndexOutOfBoundsException, IllegalArgumentException",
        "int pass(int) throws IllegalArgumentException",
        "int told(int) throws IllegalArgumentException",
        "int alarmIn(int, int) throws IndexOutOfBoundsException, IllegalArgumentException",
        "int smokeAfter(int, int) throws IndexOutOfBoundsException, IllegalArgumentException",
        "int peak(int, int, int) throws IndexOutOfBoundsException, IllegalArgumentException",
        "int bestOpening(int) throws IllegalArgumentException",
        "int neededSensors(int, int) throws IndexOutOfBoundsException, IllegalArgumentException",
        "int burnsFor(int) throws IllegalArgumentException",
        "int undo() throws IllegalStateException",
        "long checksum()"};

    public static void main(String[] args) throws Exception {
        publicMethods();
        nothingElseShows();
        classesInside();
        text(Path.of("src/main/java/SmokeGuard.java"));
        check.end();
    }

    private static String names(Class<?>[] classes) {
        return Arrays.stream(classes).map(Class::getSimpleName).collect(Collectors.joining(", "));
    }

    private static String line(Method m) {
        String thrown = names(m.getExceptionTypes());
        return m.getReturnType().getSimpleName() + " " + m.getName() + "(" + names(m.getParameterTypes()) + ")"
                + (thrown.isEmpty() ? "" : " throws " + thrown);
    }

    private static void publicMethods() {
        Set<String> got = new TreeSet<>();
        for (Method m : SmokeGuard.class.getDeclaredMethods()) {
            if (!Modifier.isPrivate(m.getModifiers()) && !m.isSynthetic()) {
                check.due(m + " is public and not static", Modifier.isPublic(m.getModifiers())
                        && !Modifier.isStatic(m.getModifiers()), true);
                got.add(line(m));
            }
        }
        Set<String> want = new TreeSet<>(Arrays.asList(FACE));
        for (String m : want) {
            check.due("the face has " + m, got.contains(m), true);
        }
        for (String m : got) {
            check.due("the document knows " + m, want.contains(m), true);
        }
    }

    private static void nothingElseShows() {
        Class<?> c = SmokeGuard.class;
        check.due("public", Modifier.isPublic(c.getModifiers()), true);
        check.due("final", Modifier.isFinal(c.getModifiers()), true);
        check.due("package", c.getPackageName().length(), 0);
        Constructor<?>[] made = c.getDeclaredConstructors();
        check.due("one constructor", made.length, 1);
        check.due("it is public", Modifier.isPublic(made[0].getModifiers()), true);
        check.due("without parameters", made[0].getParameterCount(), 0);
        for (Field f : c.getDeclaredFields()) {
            boolean isConstant = f.getName().equals("NONE");
            check.due(f.getName() + " is public", Modifier.isPublic(f.getModifiers()), isConstant);
            check.due(f.getName() + " is private", Modifier.isPrivate(f.getModifiers()), !isConstant);
            if (Modifier.isStatic(f.getModifiers())) {
                check.due(f.getName() + " is final", Modifier.isFinal(f.getModifiers()), true);
            }
        }
        Set<String> face = Arrays.stream(c.getMethods()).map(Member::getName).collect(Collectors.toSet());
        for (Method m : c.getDeclaredMethods()) {
            if (Modifier.isPrivate(m.getModifiers())) {
                check.due("private " + m.getName() + " has a public one's name", face.contains(m.getName()), false);
            }
        }
    }

    private static void classesInside() {
        Class<?>[] inside = SmokeGuard.class.getDeclaredClasses();
        check.due("at most twelve classes", inside.length + 1 <= 12, true);
        for (Class<?> c : inside) {
            check.due(c + " is static", Modifier.isStatic(c.getModifiers()), true);
            check.due(c + " is not public", Modifier.isPublic(c.getModifiers()), false);
            long fields = Arrays.stream(c.getDeclaredFields())
                    .filter(f -> !Modifier.isStatic(f.getModifiers())).count();
            check.due(c + " has at most twenty fields", fields <= 20, true);
            for (Method m : c.getDeclaredMethods()) {
                check.due(m + " takes at most seven", m.getParameterCount() <= 7, true);
            }
        }
    }

    private static void text(Path file) throws Exception {
        byte[] bytes = Files.readAllBytes(file);
        for (byte b : bytes) {
            if (b < 0) {
                check.fail("a sign beyond 127 in " + file);
            }
        }
        String text = new String(bytes, StandardCharsets.US_ASCII).replaceAll("(?s)/\\*.*?\\*/|//[^\n]*", "");
        String[] ruledOut = {"import", "package", "->", "::", "catch", "finally", "synchronized", "assert",
            "Exact(", "hashCode", "toString", "equals(", "float", "double", "System.out", "var "};
        for (String word : ruledOut) {
            check.due("the text holds '" + word + "'", text.contains(word), false);
        }
        thrown(text);
        methodsAreShort(text);
    }

    private static void thrown(String text) {
        Matcher found = Pattern.compile("throw\\b[^;]*;").matcher(text.replaceAll("\\)\\s*throws [^{]*\\{", ") {"));
        Pattern allowed = Pattern.compile("throw new (IllegalStateException|IllegalArgumentException"
                + "|IndexOutOfBoundsException)\\(\"[^\"]*\"\\);");
        while (found.find()) {
            check.due(found.group(), allowed.matcher(found.group()).matches(), true);
        }
    }

    /** A method starts with a line that ends with a brace behind a parenthesis or an exception's name. */
    private static void methodsAreShort(String text) {
        List<String> lines = new ArrayList<>(Arrays.asList(text.split("\n")));
        Pattern start = Pattern.compile("^( {4}| {8})[A-Za-z].*[)a-z] \\{$");
        for (int i = 0; i < lines.size(); i++) {
            Matcher m = start.matcher(lines.get(i));
            if (m.matches() && !lines.get(i).contains(" class ")) {
                String close = m.group(1) + "}";
                int end = i;
                while (end < lines.size() && !lines.get(end).equals(close)) {
                    end++;
                }
                check.due("at most sixty lines: " + lines.get(i), end - i <= 60, true);
            }
        }
    }
}
