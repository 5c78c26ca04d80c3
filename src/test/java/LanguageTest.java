import java.io.IOException;
import java.nio.file.Files;
import java.nio.file.Path;
import java.util.List;
import java.util.regex.Matcher;
import java.util.regex.Pattern;

/** The rules of LANGUAGE.md that can be seen in the text alone. Its argument is the class's file. */
public final class LanguageTest {
    private static final String[] FORBIDDEN = {
        "\\bimport\\b", "\\bpackage\\b", "\\bthrow\\b", "\\bthrows\\b", "\\btry\\b", "\\bcatch\\b", "\\bfinally\\b",
        "\\bsynchronized\\b", "\\bassert\\b", "->", "::", "\\bprotected\\b", "\\bvar\\b", "\\bstatic\\s*\\{",
        "\\b(Object|Thread|Random|Exception|Throwable|hashCode|toString)\\b", "\\bSystem\\.(?!arraycopy\\b)",
        "\\bMath\\.\\w+Exact\\b", "\\[\\]\\[\\]\\[\\]", "\"\\s*\\+", "\\+\\s*\"",
    };

    public static void main(String[] args) throws IOException {
        Check check = new Check("language");
        String source = Files.readString(Path.of(args[0]));
        String code = source.replaceAll("(?s)/\\*.*?\\*/", "").replaceAll("//[^\n]*", "");
        for (String forbidden : FORBIDDEN) {
            Matcher found = Pattern.compile(forbidden).matcher(code);
            check.isTrue("the text has " + forbidden, !found.find());
        }
        Matcher state = Pattern.compile("\\bstatic\\s+(?!final\\b)[\\w\\[\\]]+\\s+\\w+\\s*[=;]").matcher(code);
        check.isTrue("a static field isn't final", !state.find());
        check.isTrue("a sign above 127", source.chars().allMatch(sign -> sign < 128));
        checkLengths(check, List.of(code.split("\n", -1)));
        check.finish();
    }

    /** A method, by its indentation, is at most some sixty lines long. */
    private static void checkLengths(Check check, List<String> lines) {
        int start = -1;
        for (int i = 0; i < lines.size(); i++) {
            String line = lines.get(i);
            if (line.matches("( {4}| {8})[^ }/].*\\) \\{")) {
                start = i;
            } else if (start >= 0 && line.matches("( {4}| {8})}")) {
                check.isTrue("line " + (start + 1) + " begins a long method", i - start < 60);
                start = -1;
            }
        }
    }
}
