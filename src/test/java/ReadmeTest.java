import java.io.IOException;
import java.lang.reflect.Method;
import java.lang.reflect.Modifier;
import java.nio.file.Files;
import java.nio.file.Path;
import java.util.List;
import java.util.regex.Matcher;
import java.util.regex.Pattern;
import java.util.stream.Stream;

/** README.md says what is so: its examples are run, its tables are held against the class and the document. */
public final class ReadmeTest {
    private static final Due DUE = new Due("ReadmeTest");
    private static final Path README = Path.of("README.md");
    private static final Path DOCUMENT = Path.of("..", "shared", "DOC.md");
    private static final Path TESTS = Path.of("src", "test", "java");
    private static final Pattern TEXT = Pattern.compile("String text = \"([^\"]*)\";");
    private static final Pattern CALL = Pattern.compile("x\\.(\\w+)\\(([^)]*)\\);\\s*// (-?\\w+)(?::.*)?");
    private static final Pattern ROW = Pattern.compile("\\| `(\\w+)\\(([^)]*)\\)` \\|[^|]*\\|([^|]*)\\|");
    private static final String[] REFUSALS = {"UNKNOWN", "OUTSIDE", "NOT", "FULL"};

    public static void main(String[] args) throws IOException, ReflectiveOperationException {
        List<String> lines = Files.readAllLines(README);
        examples(lines);
        calls(lines);
        tests(lines);
        DUE.end();
    }

    private static void examples(List<String> lines) throws ReflectiveOperationException {
        boolean inside = false;
        GoldByEar x = new GoldByEar();
        String text = "";
        int run = 0;
        for (String line : lines) {
            Matcher told = TEXT.matcher(line);
            Matcher call = CALL.matcher(line);
            if (line.startsWith("```")) {
                inside = line.equals("```java");
            } else if (inside && line.equals("GoldByEar x = new GoldByEar();")) {
                x = new GoldByEar();
            } else if (inside && told.matches()) {
                text = told.group(1);
            } else if (inside && line.startsWith("for (int k = 0; ")) {
                Ground.feed(x, text);
            } else if (inside && call.matches()) {
                DUE.is("README.md: " + line, answer(x, call.group(1), call.group(2)), number(call.group(3)));
                run++;
            } else {
                DUE.holds("a line of an example is understood: " + line, !inside);
            }
        }
        DUE.holds("there are examples: " + run, run > 20);
    }

    private static int answer(GoldByEar x, String name, String told) throws ReflectiveOperationException {
        String[] parts = told.isEmpty() ? new String[0] : told.split(", ");
        Method method = methodOf(name);
        Object[] values = new Object[parts.length];
        for (int k = 0; k < parts.length; k++) {
            boolean isTruth = method.getParameterTypes()[k] == boolean.class;
            values[k] = isTruth ? (Object) Boolean.valueOf(parts[k]) : Integer.valueOf(parts[k]);
        }
        return (Integer) method.invoke(x, values);
    }

    private static int number(String told) throws ReflectiveOperationException {
        return told.matches("-?\\d+") ? Integer.parseInt(told) : GoldByEar.class.getField(told).getInt(null);
    }

    private static Method methodOf(String name) {
        for (Method m : GoldByEar.class.getDeclaredMethods()) {
            if (m.getName().equals(name) && Modifier.isPublic(m.getModifiers())) {
                return m;
            }
        }
        throw new IllegalStateException("README.md names a call that there is not: " + name);
    }

    /** Each call has one row, with its parameters and with the refusals that the document names in its promise. */
    private static void calls(List<String> lines) throws IOException {
        String document = Files.readString(DOCUMENT);
        int rows = 0;
        for (String line : lines) {
            Matcher row = ROW.matcher(line);
            if (row.matches()) {
                String name = row.group(1);
                int told = row.group(2).isEmpty() ? 0 : row.group(2).split(", ").length;
                DUE.is("README.md: the parameters of " + name, told, methodOf(name).getParameterCount());
                String promise = promiseOf(document, name);
                DUE.holds("README.md: " + name + " as the document has it", promise.contains(" " + head(document, name)));
                for (String refusal : REFUSALS) {
                    boolean due = Pattern.compile("\\b" + refusal + "\\b").matcher(promise).find();
                    DUE.holds("README.md: " + name + ", " + refusal, row.group(3).contains("`" + refusal + "`") == due);
                }
                rows++;
            }
        }
        DUE.is("README.md: rows of calls", rows, 30);
    }

    private static String promiseOf(String document, String name) {
        Matcher promise = Pattern.compile(": " + name + "\n(.*?)(?=\n## )", Pattern.DOTALL).matcher(document);
        return promise.find() ? promise.group(1) : "";
    }

    private static String head(String document, String name) {
        Matcher head = Pattern.compile("public int (" + name + "\\([^)]*\\));").matcher(document);
        return head.find() ? head.group(1) : "nothing like it";
    }

    private static void tests(List<String> lines) throws IOException {
        try (Stream<Path> files = Files.list(TESTS)) {
            for (Path file : files.toList()) {
                String name = file.getFileName().toString().replace(".java", "");
                boolean listed = lines.stream().anyMatch(line -> line.startsWith("| `" + name + "` |"));
                DUE.holds("README.md lists " + name, listed == name.endsWith("Test"));
            }
        }
    }
}
