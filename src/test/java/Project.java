import java.io.IOException;
import java.nio.file.Files;
import java.nio.file.Path;
import java.util.Comparator;
import java.util.List;
import java.util.stream.Collectors;
import java.util.stream.Stream;

/** Where the files of the project are, for the tests that read them. */
final class Project {
    private Project() {
    }

    /** .ci/run tells the checkout; by hand a test is run from there. */
    static Path root() {
        return Path.of(System.getProperty("project", ".")).toAbsolutePath().normalize();
    }

    static Path program() {
        return root().resolve("src/main/java/BloodBank.java");
    }

    static Path tests() {
        return root().resolve("src/test/java");
    }

    static String document() throws IOException {
        return Files.readString(root().resolve("../shared/DOC.md"));
    }

    static String readme() throws IOException {
        return Files.readString(root().resolve("README.md"));
    }

    /** The lines of each block of code of that language in a text. */
    static List<List<String>> blocks(String text, String language) {
        return Stream.of(text.split("(?m)^```" + language + "\\R")).skip(1)
            .map(rest -> rest.substring(0, rest.indexOf("```")).lines().collect(Collectors.toList()))
            .collect(Collectors.toList());
    }

    static void copy(Path from, Path to) throws IOException {
        List<Path> all;
        try (Stream<Path> walk = Files.walk(from)) {
            all = walk.collect(Collectors.toList());
        }
        for (Path path : all) {
            Path target = to.resolve(from.relativize(path).toString());
            if (Files.isDirectory(path)) {
                Files.createDirectories(target);
            } else {
                Files.copy(path, target);
            }
        }
    }

    static void delete(Path directory) throws IOException {
        List<Path> deepestFirst;
        try (Stream<Path> walk = Files.walk(directory)) {
            deepestFirst = walk.sorted(Comparator.reverseOrder()).collect(Collectors.toList());
        }
        for (Path path : deepestFirst) {
            Files.delete(path);
        }
    }

    /** What a command printed, and its exit code in the last line. */
    static String run(Path directory, String... command) throws IOException, InterruptedException {
        Process p = new ProcessBuilder(command).directory(directory.toFile()).redirectErrorStream(true).start();
        p.getOutputStream().close();
        String printed = new String(p.getInputStream().readAllBytes());
        return printed + "exit " + p.waitFor();
    }
}
