import java.io.IOException;
import java.nio.charset.StandardCharsets;
import java.nio.file.Files;
import java.nio.file.Path;
import java.nio.file.StandardCopyOption;

/** A folder of build, in which a test writes files and runs commands as a reader of README.md would. */
final class Room {
    private final Path folder;
    private String printed = "";

    Room(String name) {
        folder = Path.of("build/readme", name);
    }

    void write(String file, String text) throws IOException {
        Path to = folder.resolve(file);
        Files.createDirectories(to.getParent());
        Files.writeString(to, text, StandardCharsets.UTF_8);
    }

    /** Copies a file of this project to a folder of the room, as one that can be run. */
    void copy(String file, String to) throws IOException {
        Path copied = folder.resolve(to).resolve(file);
        Files.createDirectories(copied.getParent());
        Files.copy(Path.of(file), copied, StandardCopyOption.REPLACE_EXISTING);
        copied.toFile().setExecutable(true);
    }

    void delete(String file) throws IOException {
        Files.deleteIfExists(folder.resolve(file));
    }

    /** Returns the exit code of what a shell was given to run; $0 stands for this project's classes in it. */
    int run(String in, String command) throws IOException, InterruptedException {
        Path classes = Path.of(System.getProperty("java.class.path")).toAbsolutePath();
        Process process = new ProcessBuilder("sh", "-e", "-c", command, classes.toString())
            .directory(folder.resolve(in).toFile()).redirectErrorStream(true).start();
        process.getOutputStream().close();
        printed = new String(process.getInputStream().readAllBytes(), StandardCharsets.UTF_8);
        return process.waitFor();
    }

    /** What the last run printed. */
    String printed() {
        return printed;
    }
}
