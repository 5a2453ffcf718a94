import java.lang.reflect.Method;
import java.lang.reflect.Modifier;
import java.nio.file.Files;
import java.nio.file.Path;
import java.util.Comparator;
import java.util.List;
import java.util.regex.Matcher;
import java.util.regex.Pattern;
import java.util.stream.Stream;
import javax.tools.ToolProvider;

/** What README.md says to somebody who has never seen the class: it must be so. */
public final class ReadmeTest {
    private static final Checks CHECKS = new Checks();

    private ReadmeTest() {
    }

    public static void main(String[] args) throws Exception {
        String text = Files.readString(Path.of("README.md"));
        example(text);
        calls(text);
        files(text);
        CHECKS.end("ReadmeTest");
    }

    /** The example compiles with the class alone, and prints what stands below it. */
    private static void example(String text) throws Exception {
        Path directory = Files.createTempDirectory("readme");
        try {
            Path source = directory.resolve("Example.java");
            Files.writeString(source, block(text, "java"));
            int compiled = ToolProvider.getSystemJavaCompiler().run(null, null, null, "-Xlint:all", "-Werror", "-d",
                    directory.toString(), "src/main/java/Unwindlens.java", source.toString());
            CHECKS.is("javac of the example", compiled, 0);
            Process process = new ProcessBuilder(Path.of(System.getProperty("java.home"), "bin", "java").toString(),
                    "-cp", directory.toString(), "Example").redirectErrorStream(true).start();
            String printed = new String(process.getInputStream().readAllBytes());
            CHECKS.is("exit code of the example", process.waitFor(), 0);
            CHECKS.is("the example", printed.replace("\r\n", "\n"), block(text, "text"));
        } finally {
            remove(directory);
        }
    }

    private static String block(String text, String kind) {
        Matcher found = Pattern.compile("```" + kind + "\n(.*?)```", Pattern.DOTALL).matcher(text);
        CHECKS.yes("a block of " + kind, found.find());
        String block = found.group(1);
        CHECKS.yes("one block of " + kind, !found.find());
        return block;
    }

    private static void remove(Path directory) throws Exception {
        try (Stream<Path> all = Files.walk(directory)) {
            for (Path path : all.sorted(Comparator.reverseOrder()).toList()) {
                Files.delete(path);
            }
        }
    }

    /** Each call of the face stands in one row of the tables, with as many parameters as it has. */
    private static void calls(String text) {
        List<String> rows = text.lines().filter(line -> line.startsWith("| `")).map(line -> line.split(" \\| ")[0]).toList();
        for (Method method : Unwindlens.class.getDeclaredMethods()) {
            if (!Modifier.isPublic(method.getModifiers())) {
                continue;
            }
            String more = ", \\w+".repeat(Math.max(0, method.getParameterCount() - 1));
            String call = "`" + method.getName() + "\\(" + (method.getParameterCount() > 0 ? "\\w+" : "") + more + "\\)`";
            Pattern pattern = Pattern.compile(call);
            CHECKS.is("rows of " + call, rows.stream().filter(row -> pattern.matcher(row).find()).count(), 1);
        }
        for (char kind : Kinds.ALL.toCharArray()) {
            CHECKS.is("rows of the kind " + kind, rows.stream().filter(row -> row.contains("`" + kind + "`")).count(), 1);
        }
    }

    /** Each test is named, and each file that is named is there. */
    private static void files(String text) throws Exception {
        try (Stream<Path> tests = Files.list(Path.of("src/test/java"))) {
            for (Path test : tests.filter(path -> path.toString().endsWith(".java")).toList()) {
                CHECKS.yes(test + " is named", text.contains("`src/test/java/" + test.getFileName() + "`")
                        || text.contains(", `" + test.getFileName() + "`"));
            }
        }
        Matcher named = Pattern.compile("`((?:\\.ci|src)/[\\w./]+)`").matcher(text);
        int files = 0;
        while (named.find()) {
            CHECKS.yes(named.group(1) + " is there", Files.exists(Path.of(named.group(1))));
            files++;
        }
        CHECKS.yes("files are named", files > 5);
    }
}
