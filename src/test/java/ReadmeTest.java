import java.io.File;
import java.lang.reflect.Method;
import java.lang.reflect.Modifier;
import java.nio.file.Files;
import java.nio.file.Path;
import java.util.HashMap;
import java.util.Map;
import java.util.Set;
import java.util.TreeSet;
import java.util.regex.Matcher;
import java.util.regex.Pattern;

/** README.md: its example answers as it says, and it leaves out no call and no test. */
public final class ReadmeTest {
    /** A variable, a call, what it is told, and its answer. */
    private static final Pattern EXAMPLE = Pattern.compile(
            "(?:int (\\w+) = )?teacher\\.(\\w+)\\((.*)\\); +// (\\S+): .*");
    private static final Pattern CALL = Pattern.compile("(?m)^\\| `(\\w+)\\((.*)\\)` \\| ");
    private static final Pattern CALL_OF_DOCUMENT = Pattern.compile("    public \\w+ (\\w+)\\((.*?)\\)");

    private final Tutorlight teacher = new Tutorlight();
    private final Map<String, Integer> variables = new HashMap<>();

    public static void main(String[] args) throws Exception {
        String page = Files.readString(Path.of("README.md"));
        new ReadmeTest().runExample(between(page, "```java\n", "```"));
        String document = withoutTypes(Files.readString(Path.of("../shared/DOC.md")));
        Check.same("the calls of the page", callsOf(CALL_OF_DOCUMENT, document), () -> callsOf(CALL, page));
        for (String file : new File("src/test/java").list()) {
            if (file.endsWith("Test.java")) {
                Check.same(file, true, () -> page.contains("`" + file.replace(".java", "") + "`"));
            }
        }
        Check.finish("ReadmeTest");
    }

    private static String between(String text, String start, String end) {
        int from = text.indexOf(start) + start.length();
        return text.substring(from, text.indexOf(end, from));
    }

    /** The page names what a call is told without its type. */
    private static String withoutTypes(String document) {
        return document.replaceAll("\\b(?:int|char|boolean) (\\w+)(?=[,)])", "$1");
    }

    private static Set<String> callsOf(Pattern pattern, String text) {
        Set<String> all = new TreeSet<>();
        Matcher call = pattern.matcher(text);
        while (call.find()) {
            all.add(call.group(1) + "(" + call.group(2) + ")");
        }
        return all;
    }

    private void runExample(String example) {
        String first = "Tutorlight teacher = new Tutorlight();\n";
        Check.same("the example's first line", true, () -> example.startsWith(first));
        for (String line : example.substring(first.length()).split("\n")) {
            Matcher call = EXAMPLE.matcher(line);
            Check.same("a call and its answer: " + line, true, call::matches);
            if (call.matches()) {
                Check.same(line, call.group(4), () -> String.valueOf(answerOf(call)));
            }
        }
    }

    private Object answerOf(Matcher call) throws Exception {
        String told = call.group(3);
        String[] names = told.isEmpty() ? new String[0] : told.split(", ");
        Object[] numbers = new Object[names.length];
        for (int i = 0; i < names.length; i++) {
            numbers[i] = variables.containsKey(names[i]) ? variables.get(names[i]) : Integer.valueOf(names[i]);
        }
        Object answer = methodNamed(call.group(2)).invoke(teacher, numbers);
        if (call.group(1) != null) {
            variables.put(call.group(1), (Integer) answer);
        }
        return answer;
    }

    private static Method methodNamed(String name) throws NoSuchMethodException {
        for (Method method : Tutorlight.class.getDeclaredMethods()) {
            if (method.getName().equals(name) && Modifier.isPublic(method.getModifiers())) {
                return method;
            }
        }
        throw new NoSuchMethodException(name);
    }
}
