import java.io.IOException;
import java.util.HashSet;
import java.util.List;
import java.util.Map;
import java.util.Set;

/** All sentences of the document: each one is tested by itself, and none is left out. */
public final class SentencesTest {
    /** These two only lead over to what follows them. */
    private static final Set<String> NOTHING_TO_TEST = Set.of(
            Sentences.key(Document.DESCRIPTION, "The constants:"),
            Sentences.key(Document.DESCRIPTION,
                    "The constructor and the methods follow, a promise each: the signature, then what it does."));

    public static void main(String[] args) throws IOException {
        Check check = new Check("SentencesTest");
        Document document = new Document();
        List<Sentences> parts = List.of(
                new DescriptionSentences(check, document), new MinuteSentences(check, document),
                new HouseSentences(check, document), new PartsSentences(check, document),
                new ThoughtSentences(check, document), new UndoSentences(check, document));
        Set<String> tested = new HashSet<>(NOTHING_TO_TEST);
        for (Sentences part : parts) {
            part.all();
            tested.addAll(part.tested());
        }
        for (Map.Entry<Integer, List<String>> section : document.sentences().entrySet()) {
            for (String sentence : section.getValue()) {
                String key = Sentences.key(section.getKey(), sentence);
                check.due("a test for: " + key, tested.contains(key), true);
            }
        }
        for (int promise = Document.DESCRIPTION; promise <= 29; promise++) {
            check.due("sentences of " + promise, document.sentences().containsKey(promise), true);
        }
        check.end();
    }
}
