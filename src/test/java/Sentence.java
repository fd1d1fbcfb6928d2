import java.io.IOException;
import java.nio.file.Files;
import java.nio.file.Path;
import java.util.BitSet;
import java.util.HashMap;
import java.util.Map;
import java.util.TreeMap;
import java.util.regex.Matcher;
import java.util.regex.Pattern;

/**
 * One test for each sentence of the Terms and the promises, at the boundaries that it names. The sentence is
 * quoted, so that a quote that the document does not hold, and a word that nothing quotes, are found.
 */
final class Sentence {
    private static final Path DOCUMENT = Path.of("../shared/DOC.md");
    private static final int TERMS = 5, PROMISES = 42;
    private static final Pattern WORD = Pattern.compile("-?\\w+");

    private static final Map<String, String> TEXTS = new TreeMap<>();
    private static final Map<String, BitSet> QUOTED = new HashMap<>();
    private static int tests = 0;

    private Sentence() {
    }

    static void ofTerms(int part, String quote, Runnable test) {
        look("Terms " + part, quote, test);
    }

    static void ofPromise(int number, String quote, Runnable test) {
        look("Promise " + number, quote, test);
    }

    private static void look(String part, String quote, Runnable test) {
        Check.by(part + ", '" + quote + "'");
        int before = Check.looked();
        test.run();
        Check.so("something is looked at", Check.looked() > before);
        mark(part, quote);
        tests++;
    }

    private static void mark(String part, String quote) {
        String text = texts().getOrDefault(part, "");
        int from = text.indexOf(quote);
        Check.so("the document says so, once", texts().isEmpty() || from >= 0 && text.indexOf(quote, from + 1) < 0);
        if (from >= 0) {
            QUOTED.computeIfAbsent(part, any -> new BitSet()).set(from, from + quote.length());
        }
    }

    /** Behind all tests: whether each word of the Terms and the promises is within a sentence that has one. */
    static void end() {
        for (Map.Entry<String, String> part : texts().entrySet()) {
            BitSet quoted = QUOTED.getOrDefault(part.getKey(), new BitSet());
            Matcher found = WORD.matcher(part.getValue());
            while (found.find()) {
                Check.by(part.getKey());
                String near = part.getValue().substring(Math.max(0, found.start() - 30), found.end());
                Check.so("a test for '.. " + near + "'", quoted.get(found.start()));
            }
        }
        System.out.println(tests + " sentences, each with a test of its own");
    }

    /** The parts of the document with every gap a single blank; none, if it is not there to be read. */
    private static Map<String, String> texts() {
        if (TEXTS.isEmpty() && Files.isReadable(DOCUMENT)) {
            String whole = read().replace("```text", " ").replace("```", " ").replaceAll("\\s+", " ");
            for (int part = 1; part <= TERMS; part++) {
                TEXTS.put("Terms " + part, between(whole, "======== " + part + " ",
                    part < TERMS ? "======== " + (part + 1) + " " : "Ahead of the calls"));
            }
            for (int number = 1; number <= PROMISES; number++) {
                String promise = between(whole, "## Promise " + number + ": ",
                    number < PROMISES ? "## Promise " + (number + 1) + ": " : "## Not promised");
                TEXTS.put("Promise " + number, promise.substring(promise.indexOf("`:") + 2));
            }
        }
        return TEXTS;
    }

    private static String between(String whole, String head, String end) {
        int from = whole.indexOf(head) + head.length();
        return whole.substring(from, whole.indexOf(end, from));
    }

    private static String read() {
        try {
            return Files.readString(DOCUMENT);
        } catch (IOException unreadable) {
            throw new IllegalStateException("no document at " + DOCUMENT, unreadable);
        }
    }
}
