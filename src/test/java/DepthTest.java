import java.io.IOException;
import java.nio.file.Files;
import java.nio.file.Path;
import java.util.ArrayList;
import java.util.HashSet;
import java.util.List;
import java.util.Map;
import java.util.Set;
import java.util.TreeMap;
import java.util.regex.Matcher;
import java.util.regex.Pattern;

/**
 * Rule 11 of LANGUAGE.md: calls that are no recursion go at most eight deep (the library's own count, too). Methods
 * are told apart by their names alone, so what is found is never less deep than the program.
 */
public final class DepthTest {
    private static final int MOST = 8;
    private static final Pattern HEAD = Pattern.compile(
        "(?m)^ +(?:(?:public|private|static|final) )*(?:int|long|boolean|void) (\\w+)\\([^)]*\\) \\{$");
    private static final Pattern CALL = Pattern.compile("\\b([a-z]\\w*)\\(");
    private static final Set<String> NO_CALLS = Set.of("if", "for", "while", "switch", "return");

    public static void main(String[] args) throws IOException {
        Map<String, Set<String>> calls = callsOf(Files.readString(Path.of("src/main/java/NineOpinions.java")));
        Check.so(1, "there are methods to look at", calls.size() > 100);
        for (String name : calls.keySet()) {
            List<String> way = deepest(name, calls, new ArrayList<>());
            Check.so(1, "at most " + MOST + " deep: " + way, way.size() <= MOST);
        }
        Check.end("DepthTest");
    }

    private static Map<String, Set<String>> callsOf(String source) {
        Map<String, Set<String>> calls = new TreeMap<>();
        Matcher head = HEAD.matcher(source.replaceAll("(?s)/\\*.*?\\*/|//[^\n]*", "").replaceAll("'.'", "' '"));
        String name = null;
        int from = 0;
        String plain = source.replaceAll("(?s)/\\*.*?\\*/|//[^\n]*", "").replaceAll("'.'", "' '");
        while (head.find()) {
            note(calls, name, plain.substring(from, head.start()));
            name = head.group(1);
            from = head.end();
        }
        note(calls, name, plain.substring(from));
        return calls;
    }

    private static void note(Map<String, Set<String>> calls, String name, String body) {
        Matcher call = CALL.matcher(body);
        while (name != null && call.find()) {
            if (!NO_CALLS.contains(call.group(1))) {
                calls.computeIfAbsent(name, any -> new HashSet<>()).add(call.group(1));
            }
        }
    }

    /** The longest way on which no method stands twice. */
    private static List<String> deepest(String name, Map<String, Set<String>> calls, List<String> open) {
        List<String> longest = List.of();
        open.add(name);
        for (String called : calls.getOrDefault(name, Set.of())) {
            if (!open.contains(called)) {
                List<String> way = deepest(called, calls, open);
                longest = way.size() > longest.size() ? way : longest;
            }
        }
        open.remove(open.size() - 1);
        List<String> all = new ArrayList<>(List.of(name));
        all.addAll(longest);
        return all;
    }
}
