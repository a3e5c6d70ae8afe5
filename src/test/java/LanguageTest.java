import java.io.IOException;
import java.nio.file.Files;
import java.nio.file.Path;
import java.util.regex.Matcher;
import java.util.regex.Pattern;

/** What LANGUAGE.md forbids and a look at the text can find; run from the project's folder. */
public final class LanguageTest {
    private static final Path SOURCE = Path.of("src/main/java/GradeRows.java");
    private static final int MOST_LINES = 60;
    private static final int MOST_PARAMETERS = 7;
    private static final int MOST_CLASSES = 12;
    private static final Answers ANSWERS = new Answers("LanguageTest");

    /** The document asks for no exception, so that none is thrown or caught at all. */
    private static final String[] FORBIDDEN = {
        "->", "::", "\\b(throw|throws|try|catch|finally|synchronized|assert|volatile|native|strictfp)\\b",
        "Exact\\b", "\\bpackage\\b", "\\bimport (?!java\\.util\\.Arrays;)", "\\bArrays\\.(?!copyOf\\b)",
        "\\bMath\\.(?!min\\b|max\\b)", "\\bSystem\\b", "\\bThread\\b", "\\bRandom\\b", "\\b(double|float)\\b",
        "\\bstatic \\{", "\\bwhile \\(true\\)", "\\bfor \\(;;\\)", "\\bvar\\b", "[^\\x00-\\x7f]"
    };

    public static void main(String[] args) throws IOException {
        String code = withoutComments(Files.readString(SOURCE));
        for (String pattern : FORBIDDEN) {
            ANSWERS.due("how often " + pattern, count(pattern, code), 0);
        }
        ANSWERS.due("one public class", count("\\bpublic (final )?class\\b", code), 1);
        ANSWERS.due("few classes", count("\\bclass \\w+", code) <= MOST_CLASSES, true);
        methodsAreShort(code);
        ANSWERS.finish();
    }

    private static String withoutComments(String text) {
        return Pattern.compile("/\\*.*?\\*/|//[^\n]*", Pattern.DOTALL).matcher(text).replaceAll("");
    }

    private static int count(String pattern, String code) {
        return (int) Pattern.compile(pattern).matcher(code).results().count();
    }

    /** A method's last line is the first brace that stands as far in as its head does. */
    private static void methodsAreShort(String code) {
        Pattern head = Pattern.compile("^( +)(?:\\w+ )*(?:[\\w\\[\\]]+ )?(\\w+)\\(([^()]*)\\) \\{\n", Pattern.MULTILINE);
        Matcher method = head.matcher(code);
        int methods = 0;
        while (method.find()) {
            String name = method.group(2);
            if (name.matches("if|for|while|switch")) {
                continue;
            }
            methods++;
            int end = code.indexOf("\n" + method.group(1) + "}\n", method.start());
            long lines = code.substring(method.start(), end).lines().count() + 1;
            ANSWERS.due(name + " is short: " + lines, lines <= MOST_LINES, true);
            ANSWERS.due(name + " takes few", method.group(3).split(",").length <= MOST_PARAMETERS, true);
        }
        ANSWERS.due("methods were found: " + methods, methods > 18, true);
    }
}
