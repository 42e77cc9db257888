import java.io.ByteArrayOutputStream;
import java.io.File;
import java.io.PrintStream;
import java.lang.reflect.Method;
import java.lang.reflect.Modifier;
import java.net.URL;
import java.net.URLClassLoader;
import java.nio.charset.StandardCharsets;
import java.nio.file.Files;
import java.nio.file.Path;
import java.util.ArrayList;
import java.util.Arrays;
import java.util.List;
import java.util.Set;
import java.util.TreeSet;
import java.util.concurrent.Callable;
import java.util.regex.Matcher;
import java.util.regex.Pattern;
import java.util.stream.Collectors;
import javax.tools.JavaCompiler;
import javax.tools.ToolProvider;

/** README.md: what it shows compiles, answers as it says there, and as the Model answers. */
public final class ReadmeTest {
    private static final String SOURCE = "src/main/java/SmokeGuard.java";
    private static final Pattern NAMED_FILE = Pattern.compile("(?:src|\\.ci|\\.\\./shared)/[\\w/.]*\\w");
    private static final List<Class<? extends RuntimeException>> EXCEPTIONS = List.of(
            IndexOutOfBoundsException.class, IllegalArgumentException.class, IllegalStateException.class);

    private static final Check check = new Check("ReadmeTest");
    private static final Set<String> shown = new TreeSet<>();

    public static void main(String[] args) throws Exception {
        Readme readme = new Readme();
        Path dir = Files.createTempDirectory("readme");
        try {
            programs(readme, dir);
            parts(readme, dir);
        } finally {
            remove(dir);
        }
        everythingIsShown();
        testsAreNamed(readme);
        filesAreThere(readme);
        check.end();
    }

    private static void remove(Path dir) throws Exception {
        List<Path> inside = new ArrayList<>();
        try (var walk = Files.walk(dir)) {
            walk.forEach(inside::add);
        }
        for (int i = inside.size() - 1; i >= 0; i--) {
            Files.delete(inside.get(i));
        }
    }

    // ---- compiling

    private static boolean compiles(Path dir, String name, String source) throws Exception {
        Path file = dir.resolve(name + ".java");
        Files.writeString(file, source);
        JavaCompiler javac = ToolProvider.getSystemJavaCompiler();
        boolean done = javac != null
                && javac.run(null, null, null, "-d", dir.toString(), SOURCE, file.toString()) == 0;
        check.due(name + " compiles", done, true);
        return done;
    }

    private static Class<?> load(Path dir, String name) throws Exception {
        URL[] where = {dir.toUri().toURL()};
        try (URLClassLoader loader = new URLClassLoader(where, ClassLoader.getPlatformClassLoader())) {
            Class<?> loaded = loader.loadClass(name);
            // What it needs is loaded now, since the loader is closed then.
            loader.loadClass("SmokeGuard").getDeclaredConstructor().newInstance();
            return loaded;
        }
    }

    // ---- the program

    private static void programs(Readme readme, Path dir) throws Exception {
        List<Readme.Block> blocks = readme.blocks();
        int programs = 0;
        for (int i = 0; i < blocks.size(); i++) {
            String name = Readme.program(blocks.get(i));
            if (!name.isEmpty() && compiles(dir, name, blocks.get(i).text())) {
                programs++;
                String told = i + 2 < blocks.size() ? blocks.get(i + 2).text() : "";
                same("the program " + name, printed(load(dir, name)), told);
                check.due("how to compile and run it", blocks.get(i + 1).text().equals(
                        "javac -d out " + SOURCE + " " + name + ".java\njava -cp out " + name + "\n"), true);
            }
        }
        check.due("a whole program is shown", programs, 1);
    }

    private static String printed(Class<?> program) throws Exception {
        ByteArrayOutputStream bytes = new ByteArrayOutputStream();
        PrintStream before = System.out;
        System.setOut(new PrintStream(bytes, true, StandardCharsets.UTF_8));
        try {
            program.getMethod("main", String[].class).invoke(null, (Object) new String[0]);
        } finally {
            System.setOut(before);
        }
        return bytes.toString(StandardCharsets.UTF_8).replace(System.lineSeparator(), "\n");
    }

    private static void same(String call, String got, String want) {
        check.due(call, got.equals(want), true);
        if (!got.equals(want)) {
            check.fail(call + " answered '" + got + "', README.md says '" + want + "'");
        }
    }

    // ---- the parts: calls with their answers

    private static void parts(Readme readme, Path dir) throws Exception {
        int parts = 0;
        for (Readme.Block block : readme.blocks()) {
            if (Readme.isPart(block)) {
                parts++;
                part(block, dir, "Part" + parts);
            }
        }
        check.due("parts with calls are shown", parts > 0, true);
    }

    private static void part(Readme.Block block, Path dir, String name) throws Exception {
        check.about(name);
        check.due("it starts with a new object", block.lines().get(0).equals(Readme.NEW_OBJECT), true);
        List<Readme.Call> calls = new ArrayList<>();
        for (String line : block.lines().subList(1, block.lines().size())) {
            Readme.Call call = Readme.call(line);
            check.due("a call and its answer: " + line, call != null, true);
            if (call != null) {
                calls.add(call);
            }
        }
        if (compiles(dir, name, source(name, block, calls))) {
            List<?> asked = (List<?>) load(dir, name).getMethod("calls").invoke(null);
            Model model = new Model();
            for (int i = 0; i < calls.size(); i++) {
                answers(calls.get(i), (Callable<?>) asked.get(i), model);
            }
        }
        check.about("");
    }

    /** The lines as they stand, to see that they compile, and each call by itself, to be asked. */
    private static String source(String name, Readme.Block block, List<Readme.Call> calls) {
        String asked = calls.stream().map(call -> "() -> " + call.code()).collect(Collectors.joining(",\n"));
        return "import java.util.List;\nimport java.util.concurrent.Callable;\npublic class " + name + " {\n"
                + "static void shown() {\n" + block.text() + "}\n"
                + "public static List<Callable<Object>> calls() {\n" + Readme.NEW_OBJECT + "\n"
                + "return List.<Callable<Object>>of(\n" + asked + ");\n}\n}\n";
    }

    private static void answers(Readme.Call call, Callable<?> asked, Model model) {
        shown.add(call.name());
        shown.add(call.answer());
        String got;
        try {
            got = String.valueOf(asked.call());
        } catch (Exception e) {
            got = "throws " + e.getClass().getSimpleName();
        }
        same(call.code(), got, call.answer());
        same(call.code() + " of the Model", modelled(model, call), call.answer());
        if (call.answer().equals("-1")) {
            check.due(call.code() + ": NONE is named", call.why().contains("SmokeGuard.NONE"), true);
        }
    }

    private static String modelled(Model model, Readme.Call call) {
        long answer = model.call(call.name(), call.numbers());
        long[] thrown = {Model.INDEX, Model.ARGUMENT, Model.STATE};
        for (int i = 0; i < thrown.length; i++) {
            if (answer == thrown[i]) {
                return "throws " + EXCEPTIONS.get(i).getSimpleName();
            }
        }
        boolean isTruth = call.name().equals("setDoor") || call.name().equals("isOpen");
        return isTruth ? String.valueOf(answer == 1) : String.valueOf(answer);
    }

    // ---- nothing is left out

    private static void everythingIsShown() {
        for (Method m : SmokeGuard.class.getDeclaredMethods()) {
            if (Modifier.isPublic(m.getModifiers())) {
                check.due(m.getName() + " is shown", shown.contains(m.getName()), true);
            }
        }
        for (Class<?> e : EXCEPTIONS) {
            String thrown = "throws " + e.getSimpleName();
            check.due("'" + thrown + "' is shown", shown.contains(thrown), true);
        }
        check.due("NONE is shown", shown.contains(String.valueOf(SmokeGuard.NONE)), true);
    }

    private static void testsAreNamed(Readme readme) {
        String[] files = new File("src/test/java").list((dir, name) -> name.endsWith("Test.java"));
        check.due("there are tests", files != null, true);
        if (files != null) {
            Set<String> there = Arrays.stream(files).map(f -> f.replace(".java", ""))
                    .collect(Collectors.toCollection(TreeSet::new));
            same("the tests in the table", readme.tests().toString(), there.toString());
        }
    }

    private static void filesAreThere(Readme readme) {
        Matcher m = NAMED_FILE.matcher(readme.text().replaceAll("\\S*\\.\\.\\.\\S*", ""));
        int named = 0;
        while (m.find()) {
            named++;
            check.due(m.group() + " is there", Files.exists(Path.of(m.group())), true);
        }
        check.due("files are named", named > 0, true);
    }
}
