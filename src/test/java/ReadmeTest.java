import java.io.IOException;
import java.nio.file.Files;
import java.nio.file.Path;
import java.util.stream.Stream;
import javax.tools.ToolProvider;

/** The program that README.md shows is compiled and run: it must print what README.md says. */
public final class ReadmeTest {

    private ReadmeTest() {
    }

    public static void main(String[] args) throws IOException, InterruptedException {
        Path source = Path.of(System.getProperty("source", "src/main/java/RaisedPress.java"));
        Path root = source.toAbsolutePath().getParent().getParent().getParent().getParent();
        String readme = Files.readString(root.resolve("README.md"));
        Path out = Files.createTempDirectory("readme");
        try {
            String due = block(readme, "text");
            String got = printed(out, source, block(readme, "java"));
            if (!got.equals(due)) {
                System.out.println("README.md's program printed\n" + got + "due is\n" + due);
                System.exit(1);
            }
        } finally {
            delete(out);
        }
        System.out.println("ReadmeTest: README.md's program prints what is told there");
    }

    private static String block(String readme, String kind) {
        String head = "```" + kind + "\n";
        int from = readme.indexOf(head);
        int to = from < 0 ? -1 : readme.indexOf("```\n", from + head.length());
        return to < 0 ? "no block of " + kind : readme.substring(from + head.length(), to);
    }

    private static String printed(Path out, Path source, String program)
            throws IOException, InterruptedException {
        Path file = out.resolve("YourProgram.java");
        Files.writeString(file, program);
        int wrong = ToolProvider.getSystemJavaCompiler().run(null, System.out, System.out,
            "-d", out.toString(), source.toString(), file.toString());
        if (wrong != 0) {
            return "it does not compile\n";
        }
        String java = Path.of(System.getProperty("java.home"), "bin", "java").toString();
        Process run = new ProcessBuilder(java, "-cp", out.toString(), "YourProgram")
            .redirectErrorStream(true).start();
        String all = new String(run.getInputStream().readAllBytes()).replace("\r\n", "\n");
        return run.waitFor() == 0 ? all : all + "it ended with a wrong exit code\n";
    }

    private static void delete(Path folder) throws IOException {
        try (Stream<Path> files = Files.walk(folder)) {
            for (Path file : (Iterable<Path>) files.sorted(
                    java.util.Comparator.reverseOrder())::iterator) {
                Files.delete(file);
            }
        }
    }
}
