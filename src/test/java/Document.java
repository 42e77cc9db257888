import java.io.IOException;
import java.nio.charset.StandardCharsets;
import java.nio.file.Files;
import java.nio.file.Path;
import java.util.ArrayList;
import java.util.List;
import java.util.Map;
import java.util.TreeMap;
import java.util.regex.Matcher;
import java.util.regex.Pattern;

/** The sentences of the document: those of the description (number 0) and those of each promise (1 to 29). */
final class Document {
    static final int DESCRIPTION = 0;

    private static final Path FILE = Path.of("../shared/DOC.md");
    private static final int NOWHERE = -1;
    private static final Pattern PROMISE = Pattern.compile("## Promise (\\d+):.*");
    private static final Pattern SIGNATURE = Pattern.compile("`(int|long|boolean|SmokeGuard)\\b.*`");

    private final Map<Integer, List<String>> sentences = new TreeMap<>();

    Document() throws IOException {
        int section = NOWHERE;
        for (String line : Files.readAllLines(FILE, StandardCharsets.UTF_8)) {
            if (line.startsWith("## ")) {
                section = sectionOf(line);
            } else if (section != NOWHERE) {
                split(section, line.strip());
            }
        }
    }

    private static int sectionOf(String heading) {
        Matcher promise = PROMISE.matcher(heading);
        if (promise.matches()) {
            return Integer.parseInt(promise.group(1));
        }
        return heading.equals("## What it is") || heading.equals("## Description") ? DESCRIPTION : NOWHERE;
    }

    private void split(int section, String line) {
        boolean isHeading = line.startsWith("----") || line.equals(line.toUpperCase());
        if (isHeading || SIGNATURE.matcher(line).matches()) {
            return;
        }
        String text = line.replaceFirst("^(\\d+\\.|-) ", "");
        for (String sentence : text.split("(?<=[.)])\\s+(?=[A-Z(])")) {
            sentences.computeIfAbsent(section, s -> new ArrayList<>()).add(sentence);
        }
    }

    Map<Integer, List<String>> sentences() {
        return sentences;
    }
}
