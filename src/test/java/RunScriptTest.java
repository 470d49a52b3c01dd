import java.io.IOException;
import java.nio.file.Files;
import java.nio.file.Path;
import java.util.List;
import java.util.Set;
import java.util.TreeSet;

/**
 * The way to run the tests that README.md tells runs them all, and tells which one fails. That is
 * tried in a copy of the project in which each test is a stand-in that tells that it has been run.
 */
public final class RunScriptTest {
    private static final Due DUE = new Due("RunScriptTest");
    private static final String CLASS = "src/main/java/PivotBeats.java";
    private static final String OWN = "src/test/java", SHARED = "../shared/tests";

    public static void main(String[] args) throws Exception {
        DUE.part("README.md");
        DUE.is("programs of the shell", Readme.fenced("sh").size(), 2);
        DUE.is("the command", Readme.commandOfTests(), ".ci/run\n");
        onlyTestsHaveMain();
        allAreRun();
        fromAnotherFolder();
        aFailureIsTold(OWN, "EarlyTest", "LateTest");
        aFailureIsTold(SHARED, "Early", "Late");
        withoutTests();
        whatDoesNotCompile();
        DUE.end();
    }

    private static Path newProject() throws IOException {
        Path root = Shell.emptyFolder("trial").resolve("project");
        Shell.copy(".ci/run", root);
        Shell.copy(CLASS, root);
        return root;
    }

    /** A stand-in of a test, with an exit code; it uses the class as a true one does. */
    private static void plant(Path root, String folder, String name, int code) throws IOException {
        Shell.write(root.resolve(folder).resolve(name + ".java").normalize(),
            "public final class " + name + " {\n    public static void main(String[] args) {\n"
            + "        System.out.println(\"ran " + name + " \" + new PivotBeats().many(8));\n"
            + "        System.exit(" + code + ");\n    }\n}\n");
    }

    private static Set<String> namesIn(String folder, String ending) throws IOException {
        Set<String> names = new TreeSet<>();
        try (var files = Files.list(Path.of(folder))) {
            for (Path file : files.toList()) {
                String name = file.getFileName().toString();
                if (name.endsWith(ending)) {
                    names.add(name.replace(".java", ""));
                }
            }
        }
        return names;
    }

    /** A test that is not named as one would be left out. */
    private static void onlyTestsHaveMain() throws IOException {
        DUE.part("names of tests");
        for (String name : namesIn(OWN, ".java")) {
            boolean runs = Files.readString(Path.of(OWN, name + ".java")).contains("public static void main(");
            DUE.is(name + " has a main method", runs ? 1 : 0, name.endsWith("Test") ? 1 : 0);
        }
    }

    private static void allAreRun() throws IOException, InterruptedException {
        DUE.part("all tests");
        Path root = newProject();
        Set<String> own = namesIn(OWN, "Test.java");
        Set<String> shared = namesIn(SHARED, ".java");
        for (String name : own) {
            plant(root, OWN, name, 0);
        }
        for (String name : shared) {
            plant(root, SHARED, name, 0);
        }
        Shell.Ended ended = Shell.run(root, Readme.commandOfTests());
        DUE.is("exit code " + ended.rows(), ended.code(), 0);
        for (String name : own) {
            wasRun(ended, name, "passed: " + OWN + "/" + name + ".java");
        }
        for (String name : shared) {
            wasRun(ended, name, "passed: " + SHARED + "/" + name + ".java");
        }
        DUE.is("rows", ended.rows().size(), 2L * (own.size() + shared.size()));
    }

    private static void wasRun(Shell.Ended ended, String name, String verdict) {
        DUE.is(name + " is run", timesIn(ended.rows(), "ran " + name + " 60"), 1);
        DUE.is(verdict, timesIn(ended.rows(), verdict), 1);
    }

    private static int timesIn(List<String> rows, String row) {
        int n = 0;
        for (String each : rows) {
            if (each.equals(row)) {
                n++;
            }
        }
        return n;
    }

    private static void fromAnotherFolder() throws IOException, InterruptedException {
        DUE.part("from another folder");
        Path root = newProject();
        plant(root, OWN, "OneTest", 0);
        plant(root, SHARED, "Other", 0);
        Shell.Ended ended = Shell.run(root.getParent(), "project/.ci/run");
        DUE.is("exit code " + ended.rows(), ended.code(), 0);
        wasRun(ended, "OneTest", "passed: " + OWN + "/OneTest.java");
        wasRun(ended, "Other", "passed: " + SHARED + "/Other.java");
    }

    /** The first of two tests in a folder fails: the others are run, and the failure is told. */
    private static void aFailureIsTold(String folder, String first, String second) throws IOException, InterruptedException {
        DUE.part("a test fails in " + folder);
        Path root = newProject();
        plant(root, OWN, "OneTest", 0);
        plant(root, SHARED, "Other", 0);
        plant(root, folder, first, 1);
        plant(root, folder, second, 0);
        Shell.Ended ended = Shell.run(root, Readme.commandOfTests());
        DUE.is("exit code " + ended.rows(), ended.code(), 1);
        wasRun(ended, first, "FAILED: " + folder + "/" + first + ".java");
        wasRun(ended, second, "passed: " + folder + "/" + second + ".java");
        wasRun(ended, "OneTest", "passed: " + OWN + "/OneTest.java");
        wasRun(ended, "Other", "passed: " + SHARED + "/Other.java");
    }

    /** Tests that are not found have not passed. */
    private static void withoutTests() throws IOException, InterruptedException {
        DUE.part("no tests");
        Path root = newProject();
        plant(root, OWN, "OneTest", 0);
        Shell.Ended ended = Shell.run(root, Readme.commandOfTests());
        DUE.is("exit code without shared tests " + ended.rows(), ended.code(), 1);
        root = newProject();
        plant(root, SHARED, "Other", 0);
        plant(root, OWN, "Helper", 0);
        ended = Shell.run(root, Readme.commandOfTests());
        DUE.is("exit code without own tests " + ended.rows(), ended.code(), 1);
    }

    private static void whatDoesNotCompile() throws IOException, InterruptedException {
        DUE.part("what does not compile");
        Path root = newProject();
        plant(root, OWN, "OneTest", 0);
        plant(root, SHARED, "Other", 0);
        Shell.write(root.resolve(SHARED).resolve("Broken.java").normalize(), "public final class Broken {\n");
        Shell.Ended ended = Shell.run(root, Readme.commandOfTests());
        DUE.is("exit code by a shared test " + ended.rows(), ended.code(), 1);
        DUE.is("it is told", timesIn(ended.rows(), "FAILED: " + SHARED + "/Broken.java"), 1);
        wasRun(ended, "Other", "passed: " + SHARED + "/Other.java");
        Shell.write(root.resolve(CLASS), "public final class PivotBeats {\n");
        DUE.is("exit code by the class", Shell.run(root, Readme.commandOfTests()).code(), 1);
    }
}
