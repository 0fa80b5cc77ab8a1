import java.io.IOException;
import java.nio.file.Files;
import java.nio.file.Path;
import java.util.regex.Matcher;
import java.util.regex.Pattern;

/** What a plain look at the source can tell of the rules of LANGUAGE.md. */
public final class LanguageTest {
    private static final String[] RULED_OUT = {
        "\\b(throw|throws|try|catch|synchronized|assert|finally|package|native|volatile)\\b", "->", "::",
        "\\b(equals|hashCode|toString|Random|Thread|Object|HashMap)\\b", "\\w*Exact\\b", "\\bstatic\\s*\\{",
        "\\bSystem\\.(?!arraycopy\\b)", "\\bArrays\\.(?!fill\\b|copyOf\\b|copyOfRange\\b)",
        "\\bstatic (?!final\\b|class\\b)[\\w\\[\\]]+ \\w+ *[=;]", "\\bimport (?!java\\.util\\.Arrays;)", "\\blambda\\b"};

    private LanguageTest() {
    }

    public static void main(String[] args) throws IOException {
        String source = Files.readString(Path.of("src/main/java/ChooseOnce.java"));
        String code = source.replaceAll("(?s)/\\*.*?\\*/", "").replaceAll("//[^\n]*", "");
        for (String rule : RULED_OUT) {
            Matcher found = Pattern.compile(rule).matcher(code);
            Due.is("ruled out: " + rule, found.find(), false);
        }
        Due.is("only characters 0 to 127", source.chars().anyMatch(c -> c > 127), false);
        int classes = 0;
        Matcher each = Pattern.compile("\\bclass \\w+").matcher(code);
        while (each.find()) {
            classes++;
        }
        Due.is("at most twelve classes", classes <= 12, true);
        Due.end();
    }
}
