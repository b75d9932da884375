import java.io.IOException;
import java.lang.reflect.Method;
import java.lang.reflect.Modifier;
import java.nio.file.DirectoryStream;
import java.nio.file.Files;
import java.nio.file.Path;
import java.util.regex.Matcher;
import java.util.regex.Pattern;
import javax.tools.ToolProvider;

/** README.md: it is there, names every call and every test, and its examples answer what their comments say. */
public final class ReadmeTest {
    private static final Path README = Path.of("README.md");
    private static final Path TESTS = Path.of("src/test/java");
    private static final int PROMISES = 30;
    private static final Pattern ANSWERED = Pattern.compile("(?:int (\\w+) = )?(yard\\..*);\\s+// (-?\\w+)(:.*)?");

    private ReadmeTest() {
    }

    public static void main(String[] args) throws Exception {
        boolean isThere = Files.isRegularFile(README);
        Due.yes("README.md is there", isThere);
        if (isThere) {
            String text = Files.readString(README);
            namesEveryCall(text);
            namesEveryTest(text);
            namesTestsOfEachPromise(text);
            Due.yes("README.md says how the tests are run", text.contains("\n    .ci/run\n"));
            examplesAnswerAsTold(text);
        }
        Due.finish();
    }

    private static void namesEveryCall(String text) {
        int calls = 0;
        for (Method m : CarriageHire.class.getDeclaredMethods()) {
            if (Modifier.isPublic(m.getModifiers())) {
                String parameters = "\\w+(, \\w+){" + (m.getParameterCount() - 1) + "}";
                String call = m.getName() + "\\(" + (m.getParameterCount() == 0 ? "" : parameters) + "\\)";
                Due.yes("README.md names " + m, Pattern.compile("\\| \\d+ \\| `" + call + "` \\|").matcher(text).find());
                calls++;
            }
        }
        Due.is("README.md names a constructor, and a call for each promise behind it", 1 + calls, PROMISES);
        Due.yes("README.md names the constructor", text.contains("| 1 | `CarriageHire()` |"));
    }

    private static void namesEveryTest(String text) throws IOException {
        try (DirectoryStream<Path> files = Files.newDirectoryStream(TESTS, "*.java")) {
            for (Path file : files) {
                String name = file.getFileName().toString().replace(".java", "");
                Due.yes("README.md names " + name, text.contains("`" + name + "`"));
            }
        }
    }

    /** Each promise has a row, and in either column of it a test that tells answers with the promise's number ahead. */
    private static void namesTestsOfEachPromise(String text) throws IOException {
        boolean[][] named = new boolean[2][PROMISES + 1];
        Matcher row = Pattern.compile("(?m)^\\| ([\\d, ]+) \\| (`\\w+Test`.*) \\| (`\\w+Test`.*) \\|$").matcher(text);
        while (row.find()) {
            for (String number : row.group(1).split(", ")) {
                for (int column = 0; column < 2; column++) {
                    named[column][Integer.parseInt(number)] |= anyTells(row.group(2 + column), number);
                }
            }
        }
        for (int promise = 1; promise <= PROMISES; promise++) {
            Due.yes(promise + ": README.md names its test in ordinary use", named[0][promise]);
            Due.yes(promise + ": README.md names its test at the bounds", named[1][promise]);
        }
    }

    private static boolean anyTells(String tests, String number) throws IOException {
        Matcher name = Pattern.compile("\\w+Test").matcher(tests);
        boolean tells = false;
        while (name.find()) {
            Path file = TESTS.resolve(name.group() + ".java");
            tells |= Files.exists(file) && Pattern.compile("\"" + number + "[:,] ").matcher(Files.readString(file)).find();
        }
        return tells;
    }

    // The examples are compiled to where the tests are, as only there they may use Due.
    private static void examplesAnswerAsTold(String text) throws Exception {
        String classes = System.getProperty("java.class.path");
        Path source = Path.of(classes).resolve("ReadmeExample.java");
        Files.writeString(source, exampleOf(text));
        int ended = ToolProvider.getSystemJavaCompiler().run(null, null, null, "-cp", classes, "-d", classes,
                source.toString());
        Due.is("README.md: the examples can be compiled", ended, 0);
        if (ended == 0) {
            Class.forName("ReadmeExample").getDeclaredMethod("run").invoke(null);
        }
    }

    /** The lines of all examples, each that has an answer in its comment with a check of it. */
    private static String exampleOf(String text) {
        StringBuilder code = new StringBuilder("final class ReadmeExample {\n");
        code.append("static int asInt(int answer) { return answer; }\n");
        code.append("static int asInt(boolean answer) { return answer ? 1 : 0; }\n");
        code.append("static void run() {\n");
        int answers = 0;
        Matcher block = Pattern.compile("(?s)```java\n(.*?)```").matcher(text);
        while (block.find()) {
            for (String line : block.group(1).split("\n")) {
                Matcher told = ANSWERED.matcher(line);
                code.append(told.matches() ? checkOf(told) : line).append("\n");
                answers += told.matches() ? 1 : 0;
                Due.yes("README.md tells what is answered: " + line, told.matches() || !line.startsWith("yard."));
            }
        }
        Due.yes("README.md has examples", answers > 0);
        return code.append("}\n}\n").toString();
    }

    private static String checkOf(Matcher told) {
        String name = told.group(1);
        String call = told.group(2);
        String kept = name == null ? "" : "int " + name + " = " + call + "; ";
        return kept + "Due.is(\"README.md: " + call + "\", asInt(" + (name == null ? call : name) + "), asInt("
                + told.group(3) + "));";
    }
}
