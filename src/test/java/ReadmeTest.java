import java.io.IOException;
import java.nio.file.Files;
import java.nio.file.Path;
import java.util.ArrayList;
import java.util.Comparator;
import java.util.List;
import java.util.stream.Stream;

/** README.md works as it is written: its example and its commands are run. It is run from the project's own folder. */
public final class ReadmeTest {
    /** Not run from here, as it is what runs this test. */
    private static final String ALL_TESTS = ".ci/run";

    private static int wrong = 0;

    public static void main(String[] args) throws IOException, InterruptedException {
        List<String> lines = Files.readAllLines(Path.of("README.md"));
        List<String> commands = blocks(lines, "sh");
        String example = only(blocks(lines, "java"), "java");
        String printed = only(blocks(lines, "text"), "text");
        need("it has the commands for the example, all tests, one test", commands.size() == 3);
        need("it tells how to run all tests", commands.contains(ALL_TESTS + "\n") && Files.isExecutable(Path.of(ALL_TESTS)));
        Path root = Files.createTempDirectory("readme");
        try {
            Files.createSymbolicLink(root.resolve("src"), Path.of("src").toAbsolutePath());
            Files.writeString(root.resolve("Example.java"), example);
            for (String command : commands) {
                if (!command.equals(ALL_TESTS + "\n")) {
                    run(root, command, command.contains("Example") ? printed : "");
                }
            }
        } finally {
            remove(root);
        }
        if (wrong > 0) {
            System.exit(1);
        }
    }

    private static void run(Path root, String command, String due) throws IOException, InterruptedException {
        Process process = new ProcessBuilder("sh", "-e", "-c", command).directory(root.toFile())
                .redirectError(ProcessBuilder.Redirect.INHERIT).start();
        String got = new String(process.getInputStream().readAllBytes());
        int exit = process.waitFor();
        need(command + "ends with 0, not " + exit, exit == 0);
        need(command + "prints\n" + due + "not\n" + got, got.equals(due));
    }

    /** What stands between a line of three signs with this kind and the next such line. */
    private static List<String> blocks(List<String> lines, String kind) {
        List<String> found = new ArrayList<>();
        StringBuilder block = null;
        for (String line : lines) {
            if (block != null && line.equals("```")) {
                found.add(block.toString());
                block = null;
            } else if (block != null) {
                block.append(line).append('\n');
            } else if (line.equals("```" + kind)) {
                block = new StringBuilder();
            }
        }
        return found;
    }

    private static String only(List<String> blocks, String kind) {
        need("it has one block of " + kind, blocks.size() == 1);
        return blocks.isEmpty() ? "" : blocks.get(0);
    }

    private static void need(String what, boolean holds) {
        if (!holds) {
            wrong++;
            System.out.println("README.md: " + what);
        }
    }

    private static void remove(Path root) throws IOException {
        try (Stream<Path> all = Files.walk(root)) {
            for (Path path : all.sorted(Comparator.reverseOrder()).toList()) {
                Files.delete(path);
            }
        }
    }
}
