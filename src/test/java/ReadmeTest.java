import java.io.IOException;
import java.nio.file.Files;
import java.nio.file.Path;
import java.util.List;
import javax.tools.JavaCompiler;
import javax.tools.ToolProvider;

/** README.md's example, done as it is written there, prints what is written there. */
public final class ReadmeTest {
    private static final Due due = new Due("ReadmeTest");
    private static final String SOURCE = "src/main/java/TreeHashes.java";

    public static void main(String[] args) throws IOException, InterruptedException {
        List<String> readme = Files.readAllLines(Path.of("README.md"));
        Path work = Files.createTempDirectory("readme");
        try {
            example(readme, work);
            testsAreNamed(readme);
        } finally {
            remove(work);
        }
        due.end();
    }

    private static void example(List<String> readme, Path work) throws IOException, InterruptedException {
        Path file = work.resolve("Example.java");
        Path out = work.resolve("out");
        Files.writeString(file, block(readme, "java"));
        JavaCompiler compiler = ToolProvider.getSystemJavaCompiler();
        int compiled = compiler.run(null, null, null, "-d", out.toString(), SOURCE, file.toString());
        due.is("javac of the example", compiled, 0);
        String java = Path.of(System.getProperty("java.home"), "bin", "java").toString();
        Process run = new ProcessBuilder(java, "-cp", out.toString(), "Example").redirectErrorStream(true).start();
        String printed = new String(run.getInputStream().readAllBytes());
        due.is("java of the example", run.waitFor(), 0);
        due.is("the example", printed, block(readme, "text"));
    }

    /** The lines of the first block of a kind. */
    private static String block(List<String> readme, String kind) {
        StringBuilder text = new StringBuilder();
        int first = readme.indexOf("```" + kind) + 1;
        due.is("README.md has a block of " + kind, first > 0 ? 1 : 0, 1);
        for (int i = first; i < readme.size() && !readme.get(i).equals("```"); i++) {
            text.append(readme.get(i)).append('\n');
        }
        return text.toString();
    }

    /** Each test of the project stands in README.md's table. */
    private static void testsAreNamed(List<String> readme) throws IOException {
        String all = String.join("\n", readme);
        try (var files = Files.newDirectoryStream(Path.of("src/test/java"), "*Test.java")) {
            for (Path file : files) {
                String name = file.getFileName().toString().replace(".java", "");
                due.is("README.md names " + name, all.contains("`" + name + "`") ? 1 : 0, 1);
            }
        }
    }

    private static void remove(Path path) throws IOException {
        if (Files.isDirectory(path)) {
            try (var inside = Files.newDirectoryStream(path)) {
                for (Path one : inside) {
                    remove(one);
                }
            }
        }
        Files.delete(path);
    }
}
