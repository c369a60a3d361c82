import java.io.IOException;
import java.nio.file.Files;
import java.nio.file.Path;
import java.util.List;
import java.util.TreeSet;
import java.util.regex.Matcher;
import java.util.regex.Pattern;
import java.util.stream.Collectors;
import java.util.stream.Stream;

/** What README.md says is so: its example, its commands, its table of tests. */
public final class ReadmeTest {
    private static final String MAKES_AN_OBJECT = "BloodBank bank = new BloodBank();";
    /** A call, whether its answer is kept or not, and behind it the answer; words may follow. */
    private static final Pattern CALL =
        Pattern.compile("(?:(?:int|long) (\\w+) = )?(bank\\.\\w+\\(.*\\)); +// (-?\\d+|BloodBank\\.[A-Z_]+)(: .+)?");
    private static final Pattern ROW_OF_TABLE = Pattern.compile("(?m)^\\| `(\\w+)` \\|");
    private static final Check c = new Check("ReadmeTest");

    public static void main(String[] args) throws IOException, InterruptedException {
        Path place = Files.createTempDirectory("readme");
        try {
            exampleAnswersAsItSays(place);
            commandsWork(place);
        } finally {
            Project.delete(place);
        }
        tableNamesEveryTest();
        c.end();
    }

    private static void exampleAnswersAsItSays(Path place) throws IOException, InterruptedException {
        List<List<String>> blocks = Project.blocks(Project.readme(), "java");
        c.due(1, blocks.size());
        List<String> example = blocks.get(0);
        c.due(example.get(0).equals(MAKES_AN_OBJECT), "the example begins with an object");
        Files.writeString(place.resolve("AsItStands.java"), program("AsItStands", String.join("\n", example)));
        Files.writeString(place.resolve("Asked.java"), program("Asked", asked(example)));
        ends(Project.run(place, "javac", "-d", "example", Project.program().toString(),
            "AsItStands.java", "Asked.java"));
        ends(Project.run(place, "java", "-cp", "example", "AsItStands"));
        ends(Project.run(place, "java", "-cp", "example", "Asked"));
    }

    private static void ends(String printed) {
        c.due(printed.endsWith("exit 0"), printed);
    }

    private static String program(String name, String lines) {
        return "public final class " + name + " {\n"
            + "static int wrong;\n"
            + "static void due(String line, long want, long got) {\n"
            + "if (want != got) { wrong++; System.out.println(line + \" answered \" + got); } }\n"
            + "public static void main(String[] args) {\n" + lines + "\nSystem.exit(wrong == 0 ? 0 : 1); } }\n";
    }

    /** The example again, each call's answer held against that behind it. */
    private static String asked(List<String> example) {
        StringBuilder text = new StringBuilder(MAKES_AN_OBJECT);
        for (String line : example.subList(1, example.size())) {
            Matcher call = CALL.matcher(line);
            boolean told = call.matches();
            c.due(told, "a call with its answer behind it: " + line);
            if (told) {
                String kept = call.group(1);
                String got = kept == null ? call.group(2) : kept;
                text.append('\n').append(kept == null ? "" : line.substring(0, line.indexOf("//")));
                text.append("due(\"").append(call.group(2)).append("\", ");
                text.append(call.group(3)).append(", ").append(got).append(");");
            }
        }
        return text.toString();
    }

    /** All but .ci/run itself, which runs this test; RunScriptTest looks at it. */
    private static void commandsWork(Path place) throws IOException, InterruptedException {
        Path copy = place.resolve("main");
        Project.copy(Project.root().resolve("src"), copy.resolve("src"));
        List<List<String>> blocks = Project.blocks(Project.readme(), "sh");
        c.due(2, blocks.size());
        c.due(blocks.get(0).equals(List.of(".ci/run")), "the first command is .ci/run");
        c.due(Files.isExecutable(Project.root().resolve(".ci/run")), ".ci/run can be run");
        String printed = Project.run(copy, "sh", "-e", "-c", String.join("\n", blocks.get(1)));
        c.due(printed.matches("(?s).*\\d+ answers asked, 0 not as due\\Rexit 0"), "by hand: " + printed);
    }

    private static void tableNamesEveryTest() throws IOException {
        TreeSet<String> named = new TreeSet<>();
        Matcher row = ROW_OF_TABLE.matcher(Project.readme());
        while (row.find()) {
            c.due(named.add(row.group(1)), "named once: " + row.group(1));
        }
        TreeSet<String> there;
        try (Stream<Path> files = Files.list(Project.tests())) {
            there = files.map(file -> file.getFileName().toString()).filter(name -> name.endsWith("Test.java"))
                .map(name -> name.replace(".java", "")).collect(Collectors.toCollection(TreeSet::new));
        }
        c.due(there.toString(), named.toString());
    }
}
