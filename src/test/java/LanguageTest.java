import java.io.IOException;
import java.lang.reflect.Constructor;
import java.lang.reflect.Field;
import java.lang.reflect.Method;
import java.lang.reflect.Modifier;
import java.nio.file.Files;
import java.nio.file.Path;
import java.util.ArrayList;
import java.util.Arrays;
import java.util.HashSet;
import java.util.List;
import java.util.Set;
import java.util.TreeSet;
import java.util.regex.Matcher;
import java.util.regex.Pattern;

/** The rules of LANGUAGE.md that can be seen in the class and in its text. */
public final class LanguageTest {
    private static final Due DUE = new Due("LanguageTest");
    private static final Path FILE = Path.of("src", "main", "java", "GoldByEar.java");
    private static final String[] FACE = {
        "feed(int)", "valley()", "fault()", "told(int)", "lump(int,int)", "hearer(int,int)", "loud(int,int,boolean)",
        "sounds(int,int)", "blow(int)", "noise(int)", "stand(int,int)", "walk(int)", "dig()", "drift(int)", "undo()",
        "posts(int)", "order(int,int)", "claims(int)", "alloy(int,int,int)", "hum(int,int)", "still(int,int)",
        "train(int,int)", "hear(int,int,int)", "lies(int,int)", "write(int,int)", "tear()", "judge()", "seed(int)",
        "keep(int)", "goBack(int)"};
    private static final String[] FORBIDDEN = {
        "throw", "throws", "try", "catch", "finally", "synchronized", "assert", "package", "var", "volatile", "native",
        "strictfp", "transient", "goto", "Object", "Exception", "Thread", "Random", "System.out", "System.nanoTime",
        "System.currentTimeMillis", "hashCode", "HashMap", "Map", "Set", "Optional", "Stream"};

    public static void main(String[] args) throws IOException {
        String source = Files.readString(FILE);
        String code = withoutCommentsAndTexts(source);
        face();
        constants();
        nestedClasses();
        words(code);
        calls(code);
        lengths(code);
        DUE.end();
    }

    private static String withoutCommentsAndTexts(String source) {
        String code = Pattern.compile("/\\*.*?\\*/", Pattern.DOTALL).matcher(source).replaceAll(" ");
        code = code.replaceAll("//[^\n]*", "");
        return code.replaceAll("\"[^\"\n]*\"", "\"\"").replaceAll("'[^'\n]'", "'x'");
    }

    private static void face() {
        Set<String> due = new TreeSet<>(Arrays.asList(FACE));
        Set<String> found = new TreeSet<>();
        Set<String> publicNames = new HashSet<>();
        for (String call : FACE) {
            publicNames.add(call.substring(0, call.indexOf('(')));
        }
        for (Method m : GoldByEar.class.getDeclaredMethods()) {
            if (m.isSynthetic()) {
                continue;
            }
            List<String> types = new ArrayList<>();
            for (Class<?> type : m.getParameterTypes()) {
                types.add(type.getName());
            }
            if (Modifier.isPublic(m.getModifiers())) {
                found.add(m.getName() + "(" + String.join(",", types) + ")");
                DUE.holds(m + " answers an int", m.getReturnType() == int.class);
                DUE.holds(m + " is of the object", !Modifier.isStatic(m.getModifiers()));
            } else {
                DUE.holds(m + " is private", Modifier.isPrivate(m.getModifiers()));
                DUE.holds(m + " bears a name of its own", !publicNames.contains(m.getName()));
            }
        }
        DUE.holds("the face is the document's: " + found, found.equals(due));
        DUE.holds("the class is public and final",
            Modifier.isPublic(GoldByEar.class.getModifiers()) && Modifier.isFinal(GoldByEar.class.getModifiers()));
        Constructor<?>[] made = GoldByEar.class.getDeclaredConstructors();
        DUE.is("constructors", made.length, 1);
        DUE.holds("the constructor is public", Modifier.isPublic(made[0].getModifiers()));
        DUE.is("its parameters", made[0].getParameterCount(), 0);
    }

    private static void constants() {
        DUE.is("NONE", GoldByEar.NONE, -1);
        DUE.is("UNKNOWN", GoldByEar.UNKNOWN, -1000000001);
        DUE.is("OUTSIDE", GoldByEar.OUTSIDE, -1000000002);
        DUE.is("NOT", GoldByEar.NOT, -1000000003);
        DUE.is("FULL", GoldByEar.FULL, -1000000004);
        int open = 0;
        for (Field f : GoldByEar.class.getDeclaredFields()) {
            if (Modifier.isPublic(f.getModifiers())) {
                open++;
                DUE.holds(f + " is a constant", Modifier.isStatic(f.getModifiers()) && Modifier.isFinal(f.getModifiers()));
            } else {
                DUE.holds(f + " is private", Modifier.isPrivate(f.getModifiers()));
            }
        }
        DUE.is("public constants", open, 5);
    }

    private static void nestedClasses() {
        Class<?>[] inside = GoldByEar.class.getDeclaredClasses();
        DUE.holds("some twelve classes at most: " + (inside.length + 1), inside.length + 1 <= 12);
        fieldsOf(GoldByEar.class);
        for (Class<?> c : inside) {
            DUE.holds(c + " is static", Modifier.isStatic(c.getModifiers()));
            DUE.holds(c + " is not public", !Modifier.isPublic(c.getModifiers()) && !Modifier.isProtected(c.getModifiers()));
            DUE.is(c + ": classes inside it", c.getDeclaredClasses().length, 0);
            fieldsOf(c);
        }
    }

    private static void fieldsOf(Class<?> c) {
        int count = 0;
        for (Field f : c.getDeclaredFields()) {
            boolean isStatic = Modifier.isStatic(f.getModifiers());
            DUE.holds(f + ": static is final", !isStatic || Modifier.isFinal(f.getModifiers()));
            count += isStatic ? 0 : 1;
        }
        DUE.holds(c + " has some twenty fields at most: " + count, count <= 20);
    }

    private static void words(String code) {
        for (String word : FORBIDDEN) {
            DUE.holds("no " + word, !Pattern.compile("(?<![\\w.])" + Pattern.quote(word) + "\\b").matcher(code).find());
        }
        DUE.holds("no lambda, no arrow", !code.contains("->"));
        DUE.holds("no method reference", !code.contains("::"));
        DUE.holds("no text joined by +", !Pattern.compile("\"\"\\s*\\+|\\+\\s*\"\"").matcher(code).find());
        DUE.holds("no static block", !Pattern.compile("static\\s*\\{").matcher(code).find());
        DUE.holds("no array of arrays of objects", !Pattern.compile("[A-Z]\\w*\\[\\]\\[\\]").matcher(code).find());
        Matcher imports = Pattern.compile("import\\s+([^;]+);").matcher(code);
        while (imports.find()) {
            DUE.holds("import " + imports.group(1), imports.group(1).matches("java\\.util\\.(Arrays|ArrayList|List|Iterator)"));
        }
    }

    /** The library's functions that the class uses. */
    private static void calls(String code) {
        Matcher used = Pattern.compile("\\b(Math|Integer|Long|Arrays|System)\\.(\\w+)").matcher(code);
        Set<String> allowed = Set.of("Math.abs", "Math.min", "Math.max", "Integer.bitCount", "Arrays.fill", "System.arraycopy");
        while (used.find()) {
            DUE.holds(used.group() + " is in the library that is left", allowed.contains(used.group()));
        }
    }

    /** Methods of some sixty lines at most, with seven parameters at most. */
    private static void lengths(String code) {
        Matcher head = Pattern.compile("\n( {4,8})(?:(?:public|private|static|final) )*[\\w\\[\\]]+(?: \\w+)?\\(([^)]*)\\) \\{\n").matcher(code);
        int methods = 0;
        while (head.find()) {
            int end = code.indexOf("\n" + head.group(1) + "}\n", head.end() - 1);
            long lines = code.substring(head.end(), Math.max(end, head.end())).lines().count();
            DUE.holds("short enough:" + head.group().strip() + " " + lines, end > 0 && lines <= 60);
            DUE.holds("seven parameters at most:" + head.group().strip(), head.group(2).split(",").length <= 7);
            methods++;
        }
        DUE.holds("methods were found: " + methods, methods > 80);
    }
}
