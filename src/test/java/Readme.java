import java.io.IOException;
import java.nio.charset.StandardCharsets;
import java.nio.file.Files;
import java.nio.file.Path;
import java.util.ArrayList;
import java.util.List;
import java.util.Set;
import java.util.TreeSet;
import java.util.regex.Matcher;
import java.util.regex.Pattern;

/** What README.md shows: its blocks, and the calls in them. */
final class Readme {
    /** Some lines between fences; the kind is the word behind the first fence. */
    record Block(String kind, List<String> lines) {
        String text() {
            return String.join("\n", lines) + "\n";
        }
    }

    /** A call on x, and the answer that stands behind it. */
    record Call(String code, String name, int[] numbers, String answer, String why) {}

    static final String NEW_OBJECT = "SmokeGuard x = new SmokeGuard();";

    private static final Path FILE = Path.of("README.md");
    private static final String FENCE = "```";
    private static final Pattern PROGRAM = Pattern.compile("public class (\\w+) \\{");
    private static final Pattern CALL = Pattern.compile("(x\\.(\\w+)\\(([^()]*)\\)); +// ([^:]+)(: .+)?");
    private static final Pattern TEST = Pattern.compile("(?m)^\\| `(\\w+Test)` \\|");

    private final String text;
    private final List<Block> blocks = new ArrayList<>();

    Readme() throws IOException {
        text = Files.readString(FILE, StandardCharsets.UTF_8);
        String kind = null;
        List<String> lines = new ArrayList<>();
        for (String line : text.split("\n")) {
            if (!line.startsWith(FENCE)) {
                lines.add(line);
            } else {
                if (kind != null) {
                    blocks.add(new Block(kind, lines));
                }
                kind = kind == null ? line.substring(FENCE.length()) : null;
                lines = new ArrayList<>();
            }
        }
    }

    String text() {
        return text;
    }

    List<Block> blocks() {
        return blocks;
    }

    /** The name of the program in a block, or an empty one if it holds none. */
    static String program(Block block) {
        Matcher m = PROGRAM.matcher(block.text());
        return block.kind().equals("java") && m.find() ? m.group(1) : "";
    }

    /** A block with calls on a new object, line by line. */
    static boolean isPart(Block block) {
        return block.kind().equals("java") && program(block).isEmpty();
    }

    /** The call in a line, or null if the line is none with an answer behind it. */
    static Call call(String line) {
        Matcher m = CALL.matcher(line);
        if (!m.matches()) {
            return null;
        }
        String why = m.group(5) == null ? "" : m.group(5);
        return new Call(m.group(1), m.group(2), numbers(m.group(3)), m.group(4), why);
    }

    private static int[] numbers(String list) {
        if (list.isEmpty()) {
            return new int[0];
        }
        String[] words = list.split(", ");
        int[] numbers = new int[words.length];
        for (int i = 0; i < words.length; i++) {
            boolean isTruth = words[i].equals("true") || words[i].equals("false");
            numbers[i] = isTruth ? words[i].equals("true") ? 1 : 0 : Integer.parseInt(words[i]);
        }
        return numbers;
    }

    /** The tests that its table names. */
    Set<String> tests() {
        Set<String> names = new TreeSet<>();
        Matcher m = TEST.matcher(text);
        while (m.find()) {
            names.add(m.group(1));
        }
        return names;
    }
}
