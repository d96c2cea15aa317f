import java.io.IOException;
import java.nio.file.Files;
import java.nio.file.Path;
import java.util.regex.Matcher;
import java.util.regex.Pattern;

/** What can be seen of LANGUAGE.md's rules by looking at the words of the class. */
public final class LanguageTest {
    private static final Checks CHECKS = new Checks();
    private static final String[] FORBIDDEN = {
        "package", "import", "protected", "volatile", "native", "transient",
        "throw", "throws", "try", "catch", "finally", "synchronized", "assert",
        "Object", "equals", "hashCode", "toString", "Thread", "Random", "Date", "Exception", "Error"};

    public static void main(String[] args) throws IOException {
        String whole = Files.readString(Path.of("src/main/java/JoinGrants.java"));
        String code = withoutTexts(whole);
        words(code);
        library(code);
        sizes(code);
        CHECKS.end("LanguageTest");
    }

    /** The code without its comments and without what stands between quotes. */
    private static String withoutTexts(String whole) {
        return whole.replaceAll("(?s)/\\*.*?\\*/", "").replaceAll("//[^\n]*", "")
                .replaceAll("'(\\\\.|[^'\\\\])'", "' '").replaceAll("\"[^\"\n]*\"", "\"\"");
    }

    private static int count(String code, String pattern) {
        Matcher matcher = Pattern.compile(pattern).matcher(code);
        int found = 0;
        while (matcher.find()) {
            found++;
        }
        return found;
    }

    private static void words(String code) {
        CHECKS.of("LANGUAGE.md, rules 2, 6 and 13");
        for (String word : FORBIDDEN) {
            CHECKS.due("the word " + word, count(code, "\\b" + word + "\\b"), 0);
        }
        CHECKS.due("lambdas", count(code, "->"), 0);
        CHECKS.due("method references", count(code, "::"), 0);
        CHECKS.due("characters above 127", count(code, "[^\\x00-\\x7f]"), 0);
    }

    private static void library(String code) {
        CHECKS.of("LANGUAGE.md, rule 4");
        CHECKS.due("Math, but for max and min", count(code, "\\bMath\\.(?!(max|min)\\()"), 0);
        CHECKS.due("System, but for arraycopy", count(code, "\\bSystem\\.(?!arraycopy\\()"), 0);
        CHECKS.due("names of packages", count(code, "\\b(java|javax|jdk|sun)\\."), 0);
    }

    private static void sizes(String code) {
        CHECKS.of("LANGUAGE.md, rule 11");
        int classes = count(code, "\\b(class|enum|interface|record) [A-Z]");
        CHECKS.due("classes, 12 at the most: " + classes, classes <= 12 ? 1 : 0, 1);
        Matcher methods = Pattern.compile("(?m)^( {4}| {8})[a-zA-Z][^;=\n]*\\(([^)]*)\\) \\{$").matcher(code);
        int found = 0;
        while (methods.find()) {
            String head = methods.group();
            if (head.matches("\\s*(if|for|while|switch|else)\\b.*")) {
                continue;
            }
            found++;
            int end = code.indexOf("\n" + methods.group(1) + "}", methods.start());
            int lines = (int) code.substring(methods.start(), end).lines().count() + 1;
            CHECKS.due("at most 60 lines: " + head.trim(), lines <= 60 ? 1 : 0, 1);
            CHECKS.due("at most 7 parameters: " + head.trim(), methods.group(2).split(",").length <= 7 ? 1 : 0, 1);
        }
        CHECKS.due("methods are found", found > 50 ? 1 : 0, 1);
    }
}
