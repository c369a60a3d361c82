import java.io.IOException;
import java.io.UncheckedIOException;
import java.nio.file.Files;
import java.nio.file.Path;
import java.util.ArrayList;
import java.util.List;
import java.util.stream.Collectors;

/** .ci/run in small projects of its own: it runs every test, and fails where one fails. */
public final class RunScriptTest {
    private static final String PROGRAM = "main/src/main/java/BloodBank.java";
    private static final String OWN = "main/src/test/java/OwnTest.java";
    private static final String SHARED = "shared/tests/SharedRuns.java";
    private static final String SOUND_PROGRAM = "public final class BloodBank { }";
    private static final String SUM_OF_SOUND = "4 passed, 0 failed";
    private static final Check c = new Check("RunScriptTest");

    private final String what;
    private final Path place;
    private String printed;

    private RunScriptTest(String what) throws IOException {
        this.what = what;
        place = Files.createTempDirectory("script");
        Files.createDirectories(place.resolve("main/.ci"));
        Files.copy(Project.root().resolve(".ci/run"), place.resolve("main/.ci/run"));
        write(PROGRAM, SOUND_PROGRAM);
        write(OWN, test("OwnTest", "System.exit(0);"));
        write(SHARED, test("SharedRuns", ""));
    }

    public static void main(String[] args) throws IOException {
        RunScriptTest sound = new RunScriptTest("all pass");
        List<RunScriptTest> failing = new ArrayList<>();
        failing.add(with("an own test ends with 1", OWN, test("OwnTest", "System.exit(1);")));
        failing.add(with("an own test does not compile", OWN, "public final class OwnTest {"));
        failing.add(with("no own test", OWN, null));
        failing.add(with("a shared test ends with 3", SHARED, test("SharedRuns", "System.exit(3);")));
        failing.add(with("a shared test throws", SHARED, test("SharedRuns", "throw new IllegalStateException();")));
        failing.add(with("a shared test does not compile", SHARED, "public final class SharedRuns {"));
        failing.add(with("no shared test", SHARED, null));
        failing.add(with("the first of two shared tests ends with 1", "shared/tests/First.java",
            test("First", "System.exit(1);")));
        failing.add(with("the last of two shared tests ends with 1", "shared/tests/Zone.java",
            test("Zone", "System.exit(1);")));
        failing.add(with("a shared test uses an own one", SHARED, test("SharedRuns", "new OwnTest();")));
        failing.add(with("the class does not compile", PROGRAM, "public final class BloodBank {"));
        failing.add(with("the class has a warning", PROGRAM,
            "public final class BloodBank { private final java.util.List raw = null; }"));

        List<RunScriptTest> all = new ArrayList<>(failing);
        all.add(sound);
        all.parallelStream().forEach(RunScriptTest::run);
        sound.passes();
        failing.forEach(RunScriptTest::fails);
        wrongAnswerIsTold();
        c.end();
    }

    /** A sound project but for one file: changed, added, or (null) not there. */
    private static RunScriptTest with(String what, String file, String text) throws IOException {
        RunScriptTest project = new RunScriptTest(what);
        if (text == null) {
            Files.delete(project.place.resolve(file));
        } else {
            project.write(file, text);
        }
        return project;
    }

    private static String test(String name, String deed) {
        return "public final class " + name + " { public static void main(String[] args) { new BloodBank();"
            + " System.out.println(\"" + name + " runs\"); " + deed + " } }";
    }

    private void write(String file, String text) throws IOException {
        Path path = place.resolve(file);
        Files.createDirectories(path.getParent());
        Files.writeString(path, text);
    }

    private void run() {
        try {
            printed = Project.run(place, "sh", "main/.ci/run");
            Project.delete(place);
        } catch (IOException e) {
            throw new UncheckedIOException(e);
        } catch (InterruptedException e) {
            throw new IllegalStateException(e);
        }
    }

    private void passes() {
        List<String> lines = printed.lines().collect(Collectors.toList());
        c.due(lines.contains("OwnTest runs"), what + ": the own test is run: " + printed);
        c.due(lines.contains("SharedRuns runs"), what + ": the shared test is run: " + printed);
        c.due(printed.endsWith(SUM_OF_SOUND + "\nexit 0"), what + ": " + printed);
    }

    private void fails() {
        c.due(!printed.endsWith("exit 0"), what + ": " + printed);
        c.due(printed.matches("(?s).*\\R\\d+ passed, [1-9]\\d* failed\\Rexit \\d+"), what + ": " + printed);
    }

    /** As README.md says: with the test's line and the promise's number. */
    private static void wrongAnswerIsTold() throws IOException {
        RunScriptTest project = with("a wrong answer", OWN, "public final class OwnTest {\n"
            + "public static void main(String[] args) { Check c = new Check(\"OwnTest\");\n"
            + "c.promise(7);\n"
            + "c.due(1, 2);\n"
            + "c.end(); } }");
        String check = Files.readString(Project.tests().resolve("Check.java"));
        project.write("main/src/test/java/Check.java", check);
        project.write(PROGRAM, "public final class BloodBank { public long reading(int rack, int k) { return 0; } }");
        project.run();
        c.due(project.printed.contains("OwnTest:4: promise 7: answered 2, due is 1"), project.printed);
        project.fails();
    }
}
