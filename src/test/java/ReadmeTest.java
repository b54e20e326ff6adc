import java.io.IOException;
import java.nio.charset.StandardCharsets;
import java.nio.file.Files;
import java.nio.file.Path;
import java.util.ArrayList;
import java.util.List;
import java.util.stream.Stream;

/**
 * The commands of README.md are run as they stand there, in a copy that holds what a clean checkout
 * does; what it shows of the example is what stands in the example.
 */
public final class ReadmeTest {
    private static final String ALL_TESTS = ".ci/run";

    public static void main(String[] args) throws IOException, InterruptedException {
        Check check = new Check("ReadmeTest");
        String readme = Files.readString(Path.of("README.md"));
        List<String> commands = blocks(readme, "sh");
        check.same("blocks of commands", 4, commands.size());
        check.holds("it names " + ALL_TESTS, commands.contains(ALL_TESTS));
        check.holds(ALL_TESTS + " can be run", Files.isExecutable(Path.of(ALL_TESTS)));
        Path room = Files.createTempDirectory("readme");
        try {
            List<String> printed = runAll(check, commands, room);
            check.holds("it prints what the README says", printed.get(0).equals(blocks(readme, "text").get(0)));
            check.holds("the shared test speaks", printed.get(2).equals("all answers are as due"));
        } finally {
            remove(room);
        }
        String example = flat(Files.readString(Path.of("example", "Counting.java")));
        check.holds("the example is as shown", example.contains(flat(blocks(readme, "java").get(0))));
        check.end();
    }

    /** Each in a copy of its own: none may live from what another has left. */
    private static List<String> runAll(Check check, List<String> commands, Path room)
            throws IOException, InterruptedException {
        List<String> printed = new ArrayList<>();
        for (String command : commands) {
            // This test is itself a part of it: it would never end.
            if (!command.equals(ALL_TESTS)) {
                Path work = room.resolve("work" + printed.size());
                copy(work);
                printed.add(run(check, command, work.resolve("main")));
            }
        }
        return printed;
    }

    private static String run(Check check, String command, Path where) throws IOException, InterruptedException {
        Process process = new ProcessBuilder("sh", "-e", "-c", command).directory(where.toFile())
            .redirectErrorStream(true).start();
        process.getOutputStream().close();
        String printed = new String(process.getInputStream().readAllBytes(), StandardCharsets.UTF_8).strip();
        check.same(command + " printed " + printed + " and", 0, process.waitFor());
        return printed;
    }

    /** The texts between ```kind and ```, from the first on. */
    private static List<String> blocks(String text, String kind) {
        List<String> found = new ArrayList<>();
        String[] parts = text.split("```");
        for (int i = 1; i < parts.length; i += 2) {
            if (parts[i].startsWith(kind + "\n")) {
                found.add(parts[i].substring(kind.length()).strip());
            }
        }
        return found;
    }

    private static String flat(String text) {
        return text.replaceAll("\\s+", " ").strip();
    }

    /** As work/main and work/shared, since the commands look for ../shared. */
    private static void copy(Path work) throws IOException {
        copyTree(Path.of("src"), work.resolve("main").resolve("src"));
        copyTree(Path.of("example"), work.resolve("main").resolve("example"));
        Files.createSymbolicLink(work.resolve("shared"), Path.of("..", "shared").toRealPath());
    }

    private static void copyTree(Path from, Path to) throws IOException {
        List<Path> all;
        try (Stream<Path> walk = Files.walk(from)) {
            all = walk.toList();
        }
        Files.createDirectories(to.getParent());
        for (Path one : all) {
            Files.copy(one, to.resolve(from.relativize(one).toString()));
        }
    }

    private static void remove(Path tree) throws IOException {
        List<Path> all;
        try (Stream<Path> walk = Files.walk(tree)) {
            all = new ArrayList<>(walk.toList());
        }
        for (int i = all.size() - 1; i >= 0; i--) {
            Files.delete(all.get(i));
        }
    }
}
