import java.io.IOException;
import java.lang.reflect.Method;
import java.lang.reflect.Modifier;
import java.nio.file.Files;
import java.nio.file.Path;
import java.util.ArrayList;
import java.util.List;
import java.util.Set;
import java.util.TreeSet;
import java.util.regex.Matcher;
import java.util.regex.Pattern;

/** README.md: its example does what it says, by the commands that it says; it names all there is. */
public final class ReadmeTest {
    private static final Due DUE = new Due("ReadmeTest");
    private static final Pattern PRINTED = Pattern.compile("System\\.out\\.println\\((.*)\\);(?: // (-?\\d+)(?:: .*)?)?");
    private static final Pattern CALLED = Pattern.compile("`(\\w+)`");

    public static void main(String[] args) throws Exception {
        theExample();
        theCalls();
        theConstants();
        theTests();
        DUE.end();
    }

    private static void theExample() throws IOException, InterruptedException {
        DUE.part("the example");
        DUE.is("programs", Readme.fenced("java").size(), 1);
        List<String> calls = new ArrayList<>();
        List<String> answers = new ArrayList<>();
        for (String line : Readme.example().lines().toList()) {
            Matcher m = PRINTED.matcher(line.trim());
            if (m.matches()) {
                calls.add(m.group(1));
                answers.add(String.valueOf(m.group(2)));
            } else {
                DUE.is("println beyond what is looked at: " + line, line.contains("println") ? 1 : 0, 0);
            }
        }
        DUE.is("the example has answers", calls.isEmpty() ? 0 : 1, 1);
        Shell.Ended ended = runExample();
        DUE.is("exit code of " + Readme.commandsOfExample() + ended.rows(), ended.code(), 0);
        DUE.is("rows", ended.rows().size(), calls.size());
        for (int i = 0; i < calls.size() && i < ended.rows().size(); i++) {
            DUE.is(calls.get(i), ended.rows().get(i), answers.get(i));
        }
    }

    /** In a folder of its own, so that the project has no Example.java. */
    private static Shell.Ended runExample() throws IOException, InterruptedException {
        Path root = Shell.emptyFolder("readme");
        Shell.copy("src/main/java/PivotBeats.java", root);
        Shell.write(root.resolve("Example.java"), Readme.example());
        return Shell.run(root, Readme.commandsOfExample());
    }

    private static void theCalls() throws IOException {
        DUE.part("the calls");
        Set<String> there = new TreeSet<>();
        for (Method m : PivotBeats.class.getDeclaredMethods()) {
            if (Modifier.isPublic(m.getModifiers())) {
                there.add(m.getName());
            }
        }
        String text = Readme.text();
        int begin = text.indexOf("The calls:");
        int end = text.indexOf("A call never throws");
        DUE.is("they are told", begin >= 0 && end > begin ? 1 : 0, 1);
        if (begin >= 0 && end > begin) {
            Set<String> named = new TreeSet<>();
            Matcher m = CALLED.matcher(text.substring(begin, end));
            while (m.find()) {
                named.add(m.group(1));
            }
            DUE.is("names", named.toString(), there.toString());
        }
    }

    private static void theConstants() throws IOException {
        DUE.part("the constants");
        String text = Readme.text();
        List<String> told = List.of("`UNKNOWN` (" + PivotBeats.UNKNOWN + ")", "`OUTSIDE` (" + PivotBeats.OUTSIDE + ")",
            "`STATE` (" + PivotBeats.STATE + ")", "`FULL` (" + PivotBeats.FULL + ")", "`NONE` (" + PivotBeats.NONE + ")");
        for (String constant : told) {
            DUE.is(constant, text.contains(constant) ? 1 : 0, 1);
        }
    }

    private static void theTests() throws IOException {
        DUE.part("the tests");
        Set<String> there = new TreeSet<>();
        try (var files = Files.list(Path.of("src/test/java"))) {
            for (Path file : files.toList()) {
                String name = file.getFileName().toString();
                if (name.endsWith("Test.java")) {
                    there.add(name.replace(".java", ""));
                }
            }
        }
        Set<String> named = new TreeSet<>();
        Matcher m = CALLED.matcher(Readme.text());
        while (m.find()) {
            if (m.group(1).endsWith("Test")) {
                named.add(m.group(1));
            }
        }
        DUE.is("names", named.toString(), there.toString());
    }
}
