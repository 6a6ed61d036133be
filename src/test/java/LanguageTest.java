import java.io.IOException;
import java.nio.file.Files;
import java.nio.file.Path;
import java.util.ArrayList;
import java.util.List;
import java.util.regex.Matcher;
import java.util.regex.Pattern;

/** The rules of ../shared/LANGUAGE.md that the bare text of the class can show. */
public final class LanguageTest {
    private static final String SOURCE = "src/main/java/AnchorsForConfession.java";
    private static final String[] BANNED = {
        "\\bthrow\\b", "\\btry\\b", "\\bcatch\\b", "\\bsynchronized\\b", "\\bassert\\b", "->", "::", "Exact\\b",
        "\\bimport\\b", "\\bpackage\\b", "\\bprotected\\b", "\\bvar\\b", "\\bgoto\\b", "\\bThread\\b",
        "\\bSystem\\.(?!arraycopy)", "\\bObject\\b", "\\bhashCode\\b", "\\bMath\\.random\\b", "\\bwhile \\(true\\)",
        "for \\(;;\\)", "\\bstatic \\{", "\"[^\"]*\" \\+", "\\+ \"", "\\btoString\\b",
    };
    /** What rule 4 lists of the classes whose members the text names by the class. */
    private static final Pattern OF_LIBRARY =
        Pattern.compile("\\b(Integer|Long|Math|String|StringBuilder|Arrays|System|List|ArrayList)\\.(\\w+)(\\(?)");
    private static final List<String> LISTED = List.of(
        "compare", "max", "min", "abs", "bitCount", "floorDiv", "floorMod", "arraycopy", "copyOf", "copyOfRange",
        "fill", "of");
    private static int wrong = 0;

    private static void say(String text) {
        wrong++;
        System.out.println(text);
    }

    public static void main(String[] args) throws IOException {
        String source = Files.readString(Path.of(SOURCE));
        String code = source.replaceAll("(?s)/\\*.*?\\*/", "").replaceAll("//[^\n]*", "");
        signs(source);
        banned(code);
        library(code);
        methods(code.split("\n", -1));
        System.out.println(wrong == 0 ? "the language is kept" : wrong + " faults");
        if (wrong != 0) {
            System.exit(1);
        }
    }

    private static void signs(String source) {
        for (int i = 0; i < source.length(); i++) {
            if (source.charAt(i) > 126 || source.charAt(i) < 32 && source.charAt(i) != '\n') {
                say("a sign beyond ASCII at " + i);
            }
        }
    }

    private static void banned(String code) {
        for (String word : BANNED) {
            Matcher m = Pattern.compile(word).matcher(code);
            if (m.find()) {
                say("banned: " + word + " at line " + code.substring(0, m.start()).split("\n", -1).length);
            }
        }
        if (code.split("\\bclass ", -1).length - 1 > 12) {
            say("more than 12 classes");
        }
    }

    /** Constants of the library, Integer.MAX_VALUE among them, are not listed: functions alone are. */
    private static void library(String code) {
        Matcher m = OF_LIBRARY.matcher(code);
        while (m.find()) {
            if (!LISTED.contains(m.group(2)) || m.group(3).isEmpty()) {
                say("not listed: " + m.group() + " at line " + code.substring(0, m.start()).split("\n", -1).length);
            }
        }
    }

    /** Length and parameters of each method, and that no other bears a public one's name. */
    private static void methods(String[] lines) {
        Pattern head = Pattern.compile("^( {4}| {8})(?:(public|private) )?(?:static )?\\w+(?:\\[\\])* (\\w+)\\(([^)]*)\\) \\{$");
        List<String> open = new ArrayList<>();
        List<String> own = new ArrayList<>();
        for (int i = 0; i < lines.length; i++) {
            Matcher m = head.matcher(lines[i]);
            if (!m.matches()) {
                continue;
            }
            ("public".equals(m.group(2)) ? open : own).add(m.group(3));
            int end = i;
            while (end < lines.length && !lines[end].equals(m.group(1) + "}")) {
                end++;
            }
            if (end - i > 60) {
                say(m.group(3) + " has " + (end - i) + " lines");
            }
            if (!m.group(4).isEmpty() && m.group(4).split(",").length > 7) {
                say(m.group(3) + " takes more than seven parameters");
            }
        }
        if (open.size() != 39) {
            say("public methods: " + open.size() + ", due are 39");
        }
        for (String name : own) {
            if (open.contains(name)) {
                say("a public method's name again: " + name);
            }
        }
    }
}
