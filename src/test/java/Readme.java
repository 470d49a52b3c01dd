import java.io.IOException;
import java.nio.file.Files;
import java.nio.file.Path;
import java.util.ArrayList;
import java.util.List;
import java.util.regex.Matcher;
import java.util.regex.Pattern;

/** README.md: its text, and what stands in it between fences. */
final class Readme {
    private static final Pattern FENCED = Pattern.compile("^```(\\w+)\\n(.*?)^```$", Pattern.MULTILINE | Pattern.DOTALL);

    private Readme() {
    }

    static String text() throws IOException {
        return Files.readString(Path.of("README.md"));
    }

    /** What stands between fences of a language, in its order. */
    static List<String> fenced(String language) throws IOException {
        List<String> all = new ArrayList<>();
        Matcher m = FENCED.matcher(text());
        while (m.find()) {
            if (m.group(1).equals(language)) {
                all.add(m.group(2));
            }
        }
        return all;
    }

    static String example() throws IOException {
        return fenced("java").get(0);
    }

    static String commandsOfExample() throws IOException {
        return fenced("sh").get(0);
    }

    static String commandOfTests() throws IOException {
        return fenced("sh").get(1);
    }
}
