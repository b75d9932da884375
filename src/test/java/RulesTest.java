import java.nio.file.Files;
import java.nio.file.Path;
import java.util.regex.Matcher;
import java.util.regex.Pattern;

/** What of LANGUAGE.md can be seen in the text of the class. */
public final class RulesTest {
    private RulesTest() {
    }

    public static void main(String[] args) throws Exception {
        String source = Files.readString(Path.of("src/main/java/CarriageHire.java"));
        String code = source.replaceAll("(?s)/\\*.*?\\*/", "").replaceAll("//[^\n]*", "");
        none(code, "rule 6", "\\b(throw|throws|try|catch|finally|synchronized|assert|hashCode|toString)\\b");
        none(code, "rule 2", "->|::|\\bnew\\s+\\w+\\s*\\([^()]*\\)\\s*\\{");
        none(code, "rule 4", "Exact\\s*\\(|\\bSystem\\.(?!arraycopy)|\\bjava\\.(?!util\\.Arrays;)");
        none(code, "rule 5", "\\bstatic\\s*\\{|\\bstatic\\s+(?!final\\b)[\\w\\[\\]]+\\s+\\w+\\s*[;=]");
        none(code, "rule 9", "while\\s*\\(true\\)|for\\s*\\([^;]*;\\s*;");
        none(code, "rule 10", "\"\\s*\\+|\\+\\s*\"");
        none(code, "rule 13", "\\b(Random|Thread|currentTimeMillis|nanoTime|getenv)\\b");
        Due.yes("rule 11: classes", count(code, "\\bclass\\s+\\w+") <= 12);
        Due.yes("rule 1: public members", count(code, "\\bpublic\\b") == 32);
        parametersAreSevenAtMost(code);
        methodsAreShort(code);
        Due.finish();
    }

    private static void none(String code, String rule, String pattern) {
        Matcher m = Pattern.compile(pattern).matcher(code);
        Due.no(rule + ": " + pattern, m.find());
    }

    private static int count(String code, String pattern) {
        return (int) Pattern.compile(pattern).matcher(code).results().count();
    }

    private static void parametersAreSevenAtMost(String code) {
        Matcher m = Pattern.compile("\\w+\\(([^()]*)\\)\\s*\\{").matcher(code);
        while (m.find()) {
            Due.yes("rule 11: parameters of " + m.group(), m.group(1).split(",").length <= 7);
        }
    }

    private static void methodsAreShort(String code) {
        String[] lines = code.split("\n");
        for (int at = 0; at < lines.length; at++) {
            Matcher m = Pattern.compile("^( +)[\\w\\[\\] ]+\\(.*\\) \\{$").matcher(lines[at]);
            if (m.matches()) {
                int end = at;
                while (end < lines.length && !lines[end].equals(m.group(1) + "}")) {
                    end++;
                }
                Due.yes("rule 11: length of " + lines[at], end - at <= 60);
            }
        }
    }
}
