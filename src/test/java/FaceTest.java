import java.io.IOException;
import java.lang.reflect.Field;
import java.lang.reflect.Method;
import java.lang.reflect.Modifier;
import java.nio.file.Files;
import java.nio.file.Path;
import java.util.TreeSet;
import java.util.regex.Matcher;
import java.util.regex.Pattern;

/** The face of the document, and those rules of LANGUAGE.md that a look at the source can tell. */
public final class FaceTest {
    private static final String DUE = "person(int) people(int,int,int) mend(int,int,int) of(int,int) feed(int) law() "
        + "minds(int,int) ifLine(int) board(int) cost(int,int) helps(int) lines(int) win(int,int) matters(int) "
        + "byTurns(int,int) judge(int,int) believes(int,int,int) whose(int,int) agree(int,int) like(int) split(int) "
        + "drawn(int,int,int) write(int) strike(int) rub(int) won(int,int) led(int) image() back() undo() redo() "
        + "body(int) act(int,int,int) trace(int) keep(int,int) row(int,int,int) put(int,int,long) element(int,int) "
        + "shift(int,int,int,int,int) taken(int,int) count(int)";

    public static void main(String[] args) throws IOException {
        methods();
        constants();
        String source = Files.readString(Path.of("src/main/java/NineOpinions.java"));
        String document = Files.readString(Path.of("../shared/DOC.md"));
        asTheDocumentHasIt(document, source);
        groups(document, source);
        words(withoutTexts(source));
        calls(withoutTexts(source));
        sizes(withoutTexts(source));
        Check.end("FaceTest");
    }

    private static void methods() {
        TreeSet<String> found = new TreeSet<>();
        TreeSet<String> publicNames = new TreeSet<>();
        for (Method method : NineOpinions.class.getDeclaredMethods()) {
            StringBuilder types = new StringBuilder();
            for (Class<?> type : method.getParameterTypes()) {
                types.append(types.length() == 0 ? "" : ",").append(type.getSimpleName());
            }
            if (!Modifier.isPrivate(method.getModifiers())) {
                found.add(method.getName() + "(" + types + ")");
                publicNames.add(method.getName());
                Class<?> answer = method.getName().equals("element") ? long.class : int.class;
                Check.so(1, method.getName() + " answers " + answer, method.getReturnType() == answer);
            }
        }
        Check.so(1, "the methods are those of the face: " + found, found.equals(new TreeSet<>(java.util.List.of(DUE.split(" ")))));
        for (Class<?> inside : NineOpinions.class.getDeclaredClasses()) {
            Check.so(1, inside + " is static", Modifier.isStatic(inside.getModifiers()));
            for (Method method : inside.getDeclaredMethods()) {
                Check.so(1, method + " has a name of its own", !publicNames.contains(method.getName()));
            }
        }
        Check.so(1, "the class is public and final",
            (NineOpinions.class.getModifiers() & (Modifier.PUBLIC | Modifier.FINAL)) == (Modifier.PUBLIC | Modifier.FINAL));
        Check.due(1, "constructors", NineOpinions.class.getDeclaredConstructors().length, 1);
    }

    private static void constants() {
        int open = 0;
        for (Field field : NineOpinions.class.getDeclaredFields()) {
            open += Modifier.isPrivate(field.getModifiers()) ? 0 : 1;
        }
        Check.due(1, "open fields", open, 5);
        Check.due(1, "BAD", NineOpinions.BAD, -1);
        Check.due(1, "NOT", NineOpinions.NOT, -2);
        Check.due(1, "FULL", NineOpinions.FULL, -3);
        Check.due(1, "STATE", NineOpinions.STATE, -5);
        Check.due(1, "VOID", NineOpinions.VOID, -2000000000);
    }

    /** Each line of the document's face stands in the source, with the names that its arguments have there. */
    private static void asTheDocumentHasIt(String document, String source) {
        int from = document.indexOf("```java\n") + 8;
        String[] face = document.substring(from, document.indexOf("```", from)).split("\n");
        Check.so(1, "the document has a face", face.length > 40);
        for (String line : face) {
            String due = line.endsWith(");") ? line.substring(0, line.length() - 1) + " {" : line;
            Check.so(1, "a line of the face: " + due, source.contains("\n" + due + "\n"));
        }
    }

    /** Between what the document says ahead of some calls and the next such words stand those calls, no others. */
    private static void groups(String document, String source) {
        Matcher group = Pattern.compile("Ahead of the calls (.*) the interface says: (---- .*)\\.").matcher(document);
        int many = 0;
        while (group.find()) {
            int from = source.indexOf("    // " + group.group(2) + "\n");
            Check.so(1, "the source says " + group.group(2), from >= 0);
            int end = source.indexOf("    // ----", from + 10);
            Matcher call = Pattern.compile("\n    public \\w+ (\\w+)\\(").matcher(source.substring(Math.max(0, from), end));
            StringBuilder found = new StringBuilder();
            while (call.find()) {
                found.append(found.length() == 0 ? "" : ", ").append('`').append(call.group(1)).append('`');
            }
            Check.so(1, "calls under " + group.group(2) + ": " + found, found.toString().equals(group.group(1)));
            many++;
        }
        Check.due(1, "groups", many, 5);
    }

    /** The source without comments and without what stands within quotes. */
    private static String withoutTexts(String source) {
        return source.replaceAll("(?s)/\\*.*?\\*/", "").replaceAll("//[^\n]*", "").replaceAll("'[^']+'", "' '")
            .replaceAll("\"[^\"\n]*\"", "\"\"");
    }

    private static void words(String source) {
        String[] ruledOut = {
            "throw", "throws", "try", "catch", "synchronized", "assert", "package", "protected", "record", "double", "float",
            "HashMap", "Object", "Exception", "Random", "Thread", "import static", "static \\{", "->", "::", "@", "\"\" \\+",
            "\\+ \"\"", "new \\w+(\\.\\w+)*\\([^)]*\\) \\{",
        };
        for (String word : ruledOut) {
            String edge = Character.isLetter(word.charAt(0)) ? "\\b" : "";
            Check.so(1, "no " + word, !Pattern.compile(edge + word).matcher(source).find());
        }
        Check.so(1, "signs 1 to 127 alone", source.chars().allMatch(sign -> sign > 0 && sign < 128));
    }

    private static void calls(String source) {
        TreeSet<String> may = new TreeSet<>(java.util.List.of("Math.abs", "Math.min", "Math.max", "Integer.bitCount",
            "System.arraycopy", "Arrays.fill"));
        Matcher matcher = Pattern.compile("\\b(Math|Integer|Long|System|Arrays|String|List)\\.\\w+").matcher(source);
        while (matcher.find()) {
            Check.so(1, matcher.group() + " is in the library", may.contains(matcher.group()));
        }
        matcher = Pattern.compile("import ([\\w.]+);").matcher(source);
        while (matcher.find()) {
            Check.so(1, "import of " + matcher.group(1), matcher.group(1).equals("java.util.Arrays"));
        }
    }

    private static void sizes(String source) {
        Matcher classes = Pattern.compile("\\b(class|enum|interface) \\w+").matcher(source);
        int many = 0;
        while (classes.find()) {
            many++;
        }
        Check.so(1, many + " classes are at most twelve", many <= 12);
        for (Class<?> inside : NineOpinions.class.getDeclaredClasses()) {
            int fields = 0;
            for (Field field : inside.getDeclaredFields()) {
                fields += Modifier.isStatic(field.getModifiers()) ? 0 : 1;
            }
            Check.so(1, inside + " has " + fields + " fields", fields <= 20);
            for (Method method : inside.getDeclaredMethods()) {
                Check.so(1, method + " takes seven at most", method.getParameterCount() <= 7);
            }
        }
        int lines = 0;
        for (String line : source.split("\n")) {
            lines = line.matches(" {4}(    )?\\}") ? 0 : lines + 1;
            boolean head = line.matches(".*\\b(class|private|static|int|boolean|void|long)\\b.*\\{");
            lines = head ? 0 : lines;
            Check.so(1, "no method is longer than sixty lines: " + line, lines <= 60);
        }
    }
}
