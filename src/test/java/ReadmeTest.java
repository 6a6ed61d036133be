import java.io.IOException;
import java.lang.reflect.Method;
import java.lang.reflect.Modifier;
import java.nio.file.Files;
import java.nio.file.Path;
import java.util.ArrayList;
import java.util.List;
import java.util.regex.Matcher;
import java.util.regex.Pattern;
import java.util.stream.Stream;

/** README.md names every call and every test, and its example answers what it says. */
public final class ReadmeTest {
    private static final Pattern LETTERS = Pattern.compile("^ {4}for \\(char c : \"([^\"]+)\"\\.toCharArray\\(\\)\\).*");
    private static final Pattern CALL = Pattern.compile("^ {4}x\\.(\\w+)\\(([^)]*)\\); *// (-?\\d+)\\b.*");
    private static final int FEWEST_EXAMPLES = 10;
    private static int wrong = 0;

    private static void say(String text) {
        wrong++;
        System.out.println(text);
    }

    public static void main(String[] args) throws IOException, ReflectiveOperationException {
        String readme = Files.readString(Path.of("README.md"));
        callsAreNamed(readme);
        testsAreNamed(readme);
        exampleAnswers(readme.split("\n", -1));
        System.out.println(wrong == 0 ? "README.md says what is so" : wrong + " faults");
        if (wrong != 0) {
            System.exit(1);
        }
    }

    /** With as many arguments as the call takes. */
    private static void callsAreNamed(String readme) {
        for (Method m : AnchorsForConfession.class.getDeclaredMethods()) {
            if (!Modifier.isPublic(m.getModifiers())) {
                continue;
            }
            int n = m.getParameterCount();
            String arguments = n == 0 ? "" : "\\w+(, \\w+){" + (n - 1) + "}";
            if (!Pattern.compile("`" + m.getName() + "\\(" + arguments + "\\)`").matcher(readme).find()) {
                say("README.md does not name " + m.getName());
            }
        }
    }

    private static void testsAreNamed(String readme) throws IOException {
        try (Stream<Path> tests = Files.list(Path.of("src/test/java"))) {
            tests.map(Path::toString).filter(name -> !readme.contains(name)).sorted()
                .forEach(name -> say("README.md does not name " + name));
        }
        if (!readme.contains(".ci/run")) {
            say("README.md does not name .ci/run");
        }
    }

    private static void exampleAnswers(String[] lines) throws ReflectiveOperationException {
        AnchorsForConfession x = new AnchorsForConfession();
        int examples = 0;
        for (String line : lines) {
            Matcher letters = LETTERS.matcher(line);
            if (letters.matches()) {
                for (char c : letters.group(1).toCharArray()) {
                    x.letter(c);
                }
            }
            Matcher call = CALL.matcher(line);
            if (call.matches()) {
                examples++;
                String got = answer(x, call.group(1), call.group(2));
                if (!got.equals(call.group(3))) {
                    say("README.md says " + line.trim() + ", but it answers " + got);
                }
            }
        }
        if (examples < FEWEST_EXAMPLES) {
            say("README.md has only " + examples + " examples");
        }
    }

    private static String answer(AnchorsForConfession x, String name, String text) throws ReflectiveOperationException {
        List<Object> values = new ArrayList<>();
        for (String part : text.isEmpty() ? new String[0] : text.split(", ")) {
            values.add(Integer.valueOf(part));
        }
        Class<?>[] types = new Class<?>[values.size()];
        java.util.Arrays.fill(types, int.class);
        return String.valueOf(AnchorsForConfession.class.getMethod(name, types).invoke(x, values.toArray()));
    }
}
