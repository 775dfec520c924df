import java.io.IOException;
import java.lang.reflect.Field;
import java.lang.reflect.Method;
import java.lang.reflect.Modifier;
import java.nio.file.Files;
import java.nio.file.Path;
import java.util.ArrayList;
import java.util.List;
import java.util.Set;
import java.util.regex.Matcher;
import java.util.regex.Pattern;

/** The rules of LANGUAGE.md that can be seen in the source and in the compiled class. */
public final class LanguageTest {
    private static final Path SOURCE = Path.of("src/main/java/PacketSwitch.java");
    private static final int PARAMETERS = 7, METHOD_LINES = 60, CLASSES = 12, FIELDS = 20;
    private static final Set<Class<?>> CONSTANTS = Set.of(int.class, long.class, boolean.class, char.class, String.class,
        int[].class, long[].class, char[].class, byte[].class);

    public static void main(String[] args) throws IOException {
        String source = withoutComments(Files.readString(SOURCE));
        words(source);
        library(source);
        lengths(source);
        List<Class<?>> classes = new ArrayList<>(List.of(PacketSwitch.class.getDeclaredClasses()));
        classes.add(PacketSwitch.class);
        Expect.that("rule 11: " + classes.size() + " classes", classes.size() <= CLASSES);
        for (Class<?> one : classes) {
            fields(one);
            methods(one);
        }
        Expect.finish();
    }

    /** Texts and characters are taken out as well: what is in them is no code. */
    private static String withoutComments(String source) {
        return source.replaceAll("(?s)/\\*.*?\\*/", "").replaceAll("\"(\\\\.|[^\"\\\\])*\"", "TEXT")
            .replaceAll("'(\\\\.|[^'\\\\])'", "SIGN").replaceAll("//[^\n]*", "");
    }

    private static void none(String rule, String source, String pattern) {
        Matcher matcher = Pattern.compile(pattern).matcher(source);
        Expect.same(rule, "", matcher.find() ? matcher.group() : "");
    }

    private static void words(String source) {
        none("no package", source, "\\bpackage\\b");
        none("rule 2: no lambda, no method reference", source, "->|::");
        none("rule 5: no static block", source, "static\\s*\\{");
        none("rule 6", source, "\\b(throw|throws|try|catch|synchronized|assert|hashCode|toString)\\b");
        none("rule 10: texts are not joined by +", source, "TEXT\\s*\\+|\\+\\s*TEXT");
        none("rule 13", source, "\\b(Thread|Random|System\\.(?!arraycopy)\\w+|Runtime|Object|Exception)\\b");
    }

    private static void library(String source) {
        none("rule 4: imports", source, "import (?!java\\.util\\.(Arrays|ArrayList|List|Iterator);)[^;]*;");
        none("rule 4: Arrays", source, "Arrays\\.(?!copyOf\\b|copyOfRange\\b|fill\\b)\\w+");
        none("rule 4: Math", source, "Math\\.\\w*Exact");
    }

    private static void lengths(String source) {
        Matcher matcher = Pattern.compile("(?m)^( +)(?!for|if|while|switch|else)[\\w\\[\\]<> ]+\\([^)]*\\) \\{\n((?:.*\n)*?)\\1\\}").matcher(source);
        int found = 0;
        while (matcher.find()) {
            found++;
            int lines = matcher.group(2).split("\n").length + 2;
            Expect.that("rule 11: " + lines + " lines of " + matcher.group().lines().findFirst().get(), lines <= METHOD_LINES);
        }
        Expect.that(found + " methods were looked at", found > 100);
    }

    private static void fields(Class<?> one) {
        int count = 0;
        for (Field field : one.getDeclaredFields()) {
            if (!Modifier.isStatic(field.getModifiers())) {
                count++;
            } else {
                Expect.that("rule 5: " + field + " is final", Modifier.isFinal(field.getModifiers()));
                Expect.that("rule 5: the type of " + field, CONSTANTS.contains(field.getType()));
            }
        }
        Expect.that("rule 11: " + count + " fields of " + one, count <= FIELDS);
    }

    private static void methods(Class<?> one) {
        List<String> seen = new ArrayList<>();
        for (Method method : PacketSwitch.class.getMethods()) {
            seen.add(method.getName());
        }
        for (Method method : one.getDeclaredMethods()) {
            Expect.that("rule 11: parameters of " + method, method.getParameterCount() <= PARAMETERS);
            boolean hidden = Modifier.isPrivate(method.getModifiers());
            Expect.that("rule 1: the name of " + method, !hidden || !seen.contains(method.getName()));
        }
    }
}
