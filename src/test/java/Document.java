import java.io.IOException;
import java.nio.charset.StandardCharsets;
import java.nio.file.Files;
import java.nio.file.Path;
import java.util.LinkedHashMap;
import java.util.List;
import java.util.Map;

/** The sentences of the document, each of which is to be tested under its own head. */
final class Document {
    private static final Path FILE = Path.of("../shared/DOC.md");
    private static final String PROMISE = "Promise ";

    private record Sentence(String head, String words) {
    }

    /** Whether each sentence was tested, in the order of the document; empty if the document is not here. */
    private final Map<Sentence, Boolean> tested = new LinkedHashMap<>();

    static Document read() throws IOException {
        Document document = new Document();
        if (!Files.isReadable(FILE)) {
            System.out.println("no " + FILE + ": what the tests quote is not looked up");
            return document;
        }
        String head = "";
        for (String line : Files.readAllLines(FILE, StandardCharsets.UTF_8)) {
            if (line.startsWith("## ")) {
                head = headOf(line.substring(3));
            } else if (isTested(head, line)) {
                document.add(head, line);
            }
        }
        return document;
    }

    /** A promise is called by its number alone. */
    private static String headOf(String line) {
        return line.startsWith(PROMISE) ? line.substring(PROMISE.length(), line.indexOf(':')) : line;
    }

    /** The rest are heads, the text of the interface, and what is not promised. */
    private static boolean isTested(String head, String line) {
        boolean isOfHead = head.equals("What it is") || head.equals("Terms")
                || !head.isEmpty() && Character.isDigit(head.charAt(0));
        boolean isSentence = line.endsWith(".") || line.endsWith(":") || line.endsWith(")") || line.contains(" @");
        return isOfHead && isSentence && !line.startsWith("Ahead of the calls");
    }

    private void add(String head, String line) {
        boolean isPromise = line.startsWith("`");
        String words = isPromise ? line.substring(line.indexOf("`: ") + 3) : line.replaceFirst("^[0-9]+\\. ", "");
        for (String sentence : words.split(isPromise ? " (?=@)" : "(?<=\\.|\\.\\)) (?=[A-Z(])")) {
            tested.put(new Sentence(head, sentence), false);
        }
    }

    /** Runs the test of the one sentence under the head that begins with these words. */
    void test(String head, String words, Runnable test) {
        Check.under("[" + head + ": " + words + "] ");
        if (!tested.isEmpty()) {
            List<Sentence> found = tested.keySet().stream()
                    .filter(s -> s.head.equals(head) && s.words.startsWith(words)).toList();
            Check.same("sentences that begin so", found.size(), 1);
            found.forEach(s -> tested.put(s, true));
        }
        try {
            test.run();
        } catch (RuntimeException e) {
            Check.same("the test", "throws " + e, "no exception");
        }
        Check.under("");
    }

    void end() {
        tested.forEach((sentence, is) -> Check.same(sentence + " is tested", is, true));
        System.out.println(tested.size() + " sentences of the document");
    }
}
