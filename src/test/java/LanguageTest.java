import java.io.IOException;
import java.nio.file.Files;
import java.nio.file.Path;
import java.util.List;
import java.util.regex.Matcher;
import java.util.regex.Pattern;

/** What a look at the program's text can tell of the rules of LANGUAGE.md; .ci/run says where it is. */
public final class LanguageTest {
    private static final String[] NEVER = {
        "->", "::", "\\bfinally\\b", "\\btry\\b", "\\bcatch\\b", "\\bassert\\b", "\\bsynchronized\\b", "\\bvolatile\\b",
        "\\bpackage\\b", "\\bprotected\\b", "\\bvar\\b", "\\bSystem\\.(out|err|in|exit|nanoTime|currentTimeMillis)\\b",
        "\\bThread\\b", "\\bRandom\\b", "Exact\\b", "\\bNaN\\b", "\\b(equals|hashCode|toString) *\\(", "\\bextends\\b",
        "\\bstatic *\\{"};
    private static final Pattern THROW = Pattern.compile("throw [^;]*;");
    private static final Pattern GOOD_THROW = Pattern.compile(
            "throw new (IllegalState|IllegalArgument|IndexOutOfBounds)Exception\\((\"[^\"]*\")?\\);");
    private static final Pattern METHOD = Pattern.compile("^    (?:    )?[\\w<>\\[\\] ]*\\w\\(([^()]*)\\)[^;]*\\{$");

    public static void main(String[] args) throws IOException {
        Path source = Path.of(System.getProperty("program", "src/main/java/Rescuemarket.java"));
        List<String> lines = Files.readAllLines(source);
        String code = withoutComments(String.join("\n", lines));
        for (String never : NEVER) {
            Matcher matcher = Pattern.compile(never).matcher(code);
            Due.is("the program's text has " + never, false, matcher.find());
        }
        imports(lines);
        signs(lines);
        throwsAreWritten(code);
        methods(code.split("\n"));
        Due.end();
    }

    private static String withoutComments(String text) {
        return Pattern.compile("/\\*.*?\\*/", Pattern.DOTALL).matcher(text).replaceAll("").replaceAll("//[^\n]*", "");
    }

    private static void imports(List<String> lines) {
        for (String line : lines) {
            if (line.startsWith("import ")) {
                boolean fine = line.equals("import java.util.ArrayList;") || line.equals("import java.util.List;");
                Due.is(line, true, fine);
            }
        }
    }

    private static void signs(List<String> lines) {
        for (String line : lines) {
            Due.is("other signs in " + line, true, line.chars().allMatch(sign -> sign >= 32 && sign < 127));
        }
    }

    private static void throwsAreWritten(String code) {
        Matcher matcher = THROW.matcher(code);
        while (matcher.find()) {
            Due.is(matcher.group(), true, GOOD_THROW.matcher(matcher.group()).matches());
        }
    }

    private static void methods(String[] lines) {
        int seen = 0;
        for (int i = 0; i < lines.length; i++) {
            Matcher matcher = METHOD.matcher(lines[i]);
            if (matcher.find()) {
                seen++;
                Due.is("at most 7 parameters: " + lines[i], true, matcher.group(1).split(",").length <= 7);
                Due.is("at most 60 lines: " + lines[i], true, lengthFrom(lines, i) <= 60);
            }
        }
        Due.is("methods are found", true, seen > 30);
    }

    private static int lengthFrom(String[] lines, int start) {
        String indent = lines[start].substring(0, lines[start].length() - lines[start].stripLeading().length());
        int end = start;
        while (end < lines.length && !lines[end].equals(indent + "}")) {
            end++;
        }
        return end - start;
    }
}
