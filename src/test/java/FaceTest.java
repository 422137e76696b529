import java.lang.reflect.Constructor;
import java.lang.reflect.Member;
import java.lang.reflect.Method;
import java.lang.reflect.Modifier;
import java.nio.file.Files;
import java.nio.file.Path;
import java.util.Set;
import java.util.TreeSet;
import java.util.regex.Matcher;
import java.util.regex.Pattern;

/** The face as ../shared/DOC.md writes it, and what is easily seen of ../shared/LANGUAGE.md. */
public final class FaceTest {
    public static void main(String[] args) throws Exception {
        Check.same("the face", faceOfDocument(), FaceTest::faceOfClass);
        Check.same("public and final", Modifier.PUBLIC | Modifier.FINAL, () -> Tutorlight.class.getModifiers());
        Check.same("other members that are not private", Set.of(), FaceTest::openMembers);
        Check.same("classes inside that are not static", Set.of(), FaceTest::innerClasses);
        String code = Files.readString(Path.of("src/main/java/Tutorlight.java"));
        for (String word : new String[] {"catch", "finally", "synchronized", "assert", "->", "::", "package"}) {
            Check.same("the code holds " + word, false, () -> code.contains(word));
        }
        Check.same("signs are 1 to 126", true, () -> code.chars().allMatch(sign -> sign > 0 && sign < 127));
        Check.same("imports", 1L, () -> code.lines().filter(line -> line.startsWith("import")).count());
        Check.finish("FaceTest");
    }

    private static Set<String> faceOfDocument() throws Exception {
        String document = Files.readString(Path.of("../shared/DOC.md"));
        String face = document.substring(document.indexOf("```java"), document.indexOf("\n```\n"));
        Matcher call = Pattern.compile("public (\\w+) (\\w+)\\((.*?)\\) ?(?:throws )?(.*?);").matcher(face);
        Set<String> all = new TreeSet<>();
        while (call.find()) {
            all.add(call.group(1) + " " + call.group(2) + " " + call.group(3).replaceAll(" \\w+(,|$)", "$1")
                    + " " + call.group(4));
        }
        return all;
    }

    private static Set<String> faceOfClass() {
        Set<String> all = new TreeSet<>();
        for (Method method : Tutorlight.class.getDeclaredMethods()) {
            if (Modifier.isPublic(method.getModifiers())) {
                all.add(method.getReturnType().getSimpleName() + " " + method.getName() + " "
                        + names(method.getParameterTypes()) + " " + names(method.getExceptionTypes()));
            }
        }
        return all;
    }

    private static String names(Class<?>[] classes) {
        StringBuilder text = new StringBuilder();
        for (Class<?> each : classes) {
            text.append(text.length() == 0 ? "" : ", ").append(each.getSimpleName());
        }
        return text.toString();
    }

    private static Set<String> openMembers() {
        Set<String> all = new TreeSet<>();
        for (Member method : Tutorlight.class.getDeclaredMethods()) {
            if ((method.getModifiers() & (Modifier.PUBLIC | Modifier.PRIVATE)) == 0) {
                all.add(method.getName());
            }
        }
        for (Member field : Tutorlight.class.getDeclaredFields()) {
            if (!Modifier.isPrivate(field.getModifiers())) {
                all.add(field.getName());
            }
        }
        for (Constructor<?> constructor : Tutorlight.class.getDeclaredConstructors()) {
            if (!Modifier.isPublic(constructor.getModifiers()) || constructor.getParameterCount() != 0) {
                all.add(constructor.toString());
            }
        }
        return all;
    }

    private static Set<String> innerClasses() {
        Set<String> all = new TreeSet<>();
        for (Class<?> inside : Tutorlight.class.getDeclaredClasses()) {
            if (!Modifier.isStatic(inside.getModifiers())) {
                all.add(inside.getSimpleName());
            }
        }
        return all;
    }
}
