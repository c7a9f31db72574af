import java.nio.file.Files;
import java.nio.file.Path;
import java.util.ArrayList;
import java.util.List;
import java.util.regex.Matcher;
import java.util.regex.Pattern;
import javax.tools.JavaCompiler;
import javax.tools.ToolProvider;

/** README.md's Java compiles, and what it shows as an answer is what the class answers. Runs where README.md stands. */
public final class ReadmeTest {
    private static final Pattern SHOWN =
        Pattern.compile("(x\\.\\w+\\([^;]*\\)); *// (throws (\\w+)|true|false|-?\\d+)(:.*)?");
    private static final Pattern QUIET = Pattern.compile("SecondPlace x = new SecondPlace\\(\\);|tell\\(x, \".*\"\\);|x\\.image\\(\\);");

    private final StringBuilder methods = new StringBuilder();
    private final StringBuilder runs = new StringBuilder();
    private int shown = 0;
    private int made = 0;

    public static void main(String[] args) throws Exception {
        ReadmeTest test = new ReadmeTest();
        for (List<String> block : javaBlocks(Files.readAllLines(Path.of("README.md")))) {
            test.take(block);
        }
        Kit.same("README.md shows answers", true, test.shown >= 30 && test.made >= 2);
        test.compileAndRun();
        Kit.finish();
    }

    private static List<List<String>> javaBlocks(List<String> lines) {
        List<List<String>> blocks = new ArrayList<>();
        boolean within = false;
        for (String line : lines) {
            if (line.startsWith("```")) {
                within = line.equals("```java");
                if (within) {
                    blocks.add(new ArrayList<>());
                }
            } else if (within) {
                blocks.get(blocks.size() - 1).add(line);
            }
        }
        return blocks;
    }

    private void take(List<String> block) {
        if (block.get(0).startsWith("static ")) {
            block.forEach(line -> methods.append("    ").append(line).append('\n'));
            return;
        }
        block.forEach(this::takeCall);
    }

    private void takeCall(String line) {
        Matcher m = SHOWN.matcher(line);
        if (m.matches()) {
            shown++;
            String due = m.group(3) != null ? "\"" + m.group(3) + "\"" : m.group(2);
            runs.append("        { final SecondPlace y = x; Kit.due(\"README.md: ").append(m.group(1)).append("\", ").append(due);
            runs.append(", () -> y").append(m.group(1).substring(1)).append("); }\n");
            return;
        }
        Kit.same("README.md shows no answer of: " + line, true, QUIET.matcher(line).matches());
        if (line.startsWith("SecondPlace x")) {
            made++;
        }
        runs.append("        ").append(line.startsWith("SecondPlace x") ? line.substring("SecondPlace ".length()) : line).append('\n');
    }

    private void compileAndRun() throws Exception {
        Path dir = Files.createTempDirectory("readme");
        Path source = dir.resolve("ReadmeRun.java");
        Files.writeString(source, "final class ReadmeRun {\n" + methods + "    static void run() {\n        SecondPlace x = null;\n"
            + runs + "    }\n}\n");
        JavaCompiler compiler = ToolProvider.getSystemJavaCompiler();
        // The run must come into the directory of Kit's class, because both are without a package and one loader reads them.
        Path classes = Path.of(Kit.class.getProtectionDomain().getCodeSource().getLocation().toURI());
        int code = compiler.run(null, null, null, "-cp", classes.toString(), "-d", classes.toString(), source.toString());
        Files.delete(source);
        Files.delete(dir);
        Kit.same("README.md's Java compiles", 0, code);
        if (code == 0) {
            var run = Class.forName("ReadmeRun").getDeclaredMethod("run");
            run.setAccessible(true);
            run.invoke(null);
        }
    }
}
