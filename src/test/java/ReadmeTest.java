import java.io.IOException;
import java.lang.reflect.Method;
import java.nio.file.Files;
import java.nio.file.Path;
import java.util.List;
import java.util.regex.Matcher;
import java.util.regex.Pattern;
import java.util.stream.Stream;

/** README.md: the calls of its example answer as it says, and it names the script and every test. */
public final class ReadmeTest {
    private static final Pattern CALL = Pattern.compile("town\\.(\\w+)\\(([^)]*)\\); +// (-?\\d+)(:.*)?");

    public static void main(String[] args) throws Exception {
        String readme = Files.readString(Path.of("README.md"));
        Check.by("README.md");
        example(readme);
        refusals(readme);
        tests(readme);
        Check.end("ReadmeTest");
    }

    private static void example(String readme) throws ReflectiveOperationException {
        int from = readme.indexOf("```java\n") + 8;
        NineOpinions town = new NineOpinions();
        List<String> lines = readme.substring(from, readme.indexOf("```", from)).lines().toList();
        Check.so("its first line", lines.get(0).equals("NineOpinions town = new NineOpinions();"));
        for (String line : lines.subList(1, lines.size())) {
            Matcher call = CALL.matcher(line);
            boolean isCall = call.matches();
            Check.so("a call and its answer: " + line, isCall);
            if (isCall) {
                Check.due(line, answer(town, call.group(1), call.group(2)), Long.parseLong(call.group(3)));
            }
        }
    }

    private static long answer(NineOpinions town, String name, String told) throws ReflectiveOperationException {
        String[] values = told.isEmpty() ? new String[0] : told.split(", ");
        for (Method method : NineOpinions.class.getMethods()) {
            Class<?>[] types = method.getParameterTypes();
            if (method.getName().equals(name) && types.length == values.length) {
                Object[] arguments = new Object[values.length];
                for (int i = 0; i < values.length; i++) {
                    long value = values[i].startsWith("'") ? values[i].charAt(1) : Long.parseLong(values[i]);
                    arguments[i] = types[i] == long.class ? (Object) value : (Object) (int) value;
                }
                return ((Number) method.invoke(town, arguments)).longValue();
            }
        }
        throw new NoSuchMethodException(name);
    }

    private static void refusals(String readme) {
        Check.so("BAD", readme.contains("`BAD` (" + NineOpinions.BAD + ")"));
        Check.so("NOT", readme.contains("`NOT` (" + NineOpinions.NOT + ")"));
        Check.so("FULL", readme.contains("`FULL` (" + NineOpinions.FULL + ")"));
        Check.so("STATE", readme.contains("`STATE` (" + NineOpinions.STATE + ")"));
    }

    private static void tests(String readme) throws IOException {
        Check.so("the script", readme.contains("\n.ci/run\n"));
        try (Stream<Path> files = Files.list(Path.of("src/test/java"))) {
            for (Path file : files.toList()) {
                String name = file.getFileName().toString().replace(".java", "");
                Check.so("the name of " + name, !name.endsWith("Test") || readme.contains("`" + name + "`"));
            }
        }
    }
}
