import java.io.IOException;
import java.nio.charset.StandardCharsets;
import java.nio.file.Files;
import java.nio.file.Path;
import java.nio.file.StandardCopyOption;
import java.util.ArrayList;
import java.util.Collections;
import java.util.List;

/** Commands of a shell, and folders in which they may be tried. */
final class Shell {
    /** How commands ended, and the rows that they printed (what they say of errors is in errors.txt). */
    record Ended(int code, List<String> rows) {
    }

    private Shell() {
    }

    /** Runs commands in a folder one after another, up to the first that fails. */
    static Ended run(Path folder, String commands) throws IOException, InterruptedException {
        Process process = new ProcessBuilder("sh", "-e", "-c", commands)
            .directory(folder.toFile()).redirectError(folder.resolve("errors.txt").toFile()).start();
        process.getOutputStream().close();
        String text = new String(process.getInputStream().readAllBytes(), StandardCharsets.UTF_8);
        return new Ended(process.waitFor(), text.lines().toList());
    }

    /** A folder with nothing in it: what an earlier run left there is taken away. */
    static Path emptyFolder(String name) throws IOException {
        Path folder = Path.of("build", name);
        if (Files.exists(folder)) {
            List<Path> inside;
            try (var paths = Files.walk(folder)) {
                inside = new ArrayList<>(paths.toList());
            }
            Collections.reverse(inside);
            for (Path path : inside) {
                Files.delete(path);
            }
        }
        return Files.createDirectories(folder);
    }

    /** Copies a file of the project to the same place within a folder; one that can be run stays so. */
    static void copy(String file, Path folder) throws IOException {
        Path copy = folder.resolve(file);
        Files.createDirectories(copy.getParent());
        Files.copy(Path.of(file), copy, StandardCopyOption.COPY_ATTRIBUTES);
    }

    static void write(Path file, String text) throws IOException {
        Files.createDirectories(file.getParent());
        Files.writeString(file, text);
    }
}
