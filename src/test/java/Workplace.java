import java.io.File;
import java.io.IOException;
import java.nio.charset.StandardCharsets;
import java.nio.file.Files;
import java.nio.file.Path;
import java.nio.file.Paths;
import java.util.concurrent.TimeUnit;

/** A temporary project with its own ../shared, in which commands can be tried; it runs this project's .ci/run. */
final class Workplace {
    private static final String SCRIPT = ".ci/run";
    private static final int SECONDS = 300;

    final Path project;
    /** What the latest command printed. */
    String printed = "";
    private final Path top;

    Workplace() throws IOException {
        top = Files.createTempDirectory("desk");
        project = top.resolve("main");
        Files.createDirectories(project.resolve(".ci"));
        // A link, as it is the script here that is to be tried, wherever programs may be run.
        Files.createSymbolicLink(project.resolve(SCRIPT), Paths.get(SCRIPT).toAbsolutePath());
    }

    void write(String name, String text) throws IOException {
        Path file = project.resolve(name).normalize();
        Files.createDirectories(file.getParent());
        Files.write(file, text.getBytes(StandardCharsets.UTF_8));
    }

    void copy(String name) throws IOException {
        write(name, read(Paths.get(name)));
    }

    static String read(Path file) throws IOException {
        return new String(Files.readAllBytes(file), StandardCharsets.UTF_8);
    }

    /** Runs commands of the shell until one fails, and answers how they ended. */
    int run(String commands) throws IOException, InterruptedException {
        return runIn(project, commands);
    }

    int runIn(Path directory, String commands) throws IOException, InterruptedException {
        File out = top.resolve("out").toFile();
        File errors = top.resolve("errors").toFile();
        Process process = new ProcessBuilder("sh", "-e", "-c", commands).directory(directory.toFile())
                .redirectOutput(out).redirectError(errors).start();
        process.getOutputStream().close();
        if (!process.waitFor(SECONDS, TimeUnit.SECONDS)) {
            process.destroyForcibly();
            throw new IOException("no end within " + SECONDS + " seconds: " + commands);
        }
        printed = read(out.toPath());
        return process.exitValue();
    }

    /** What the latest command printed as errors. */
    String errors() throws IOException {
        return read(top.resolve("errors"));
    }

    void remove() throws IOException {
        remove(top.toFile());
    }

    private static void remove(File file) throws IOException {
        File[] inside = Files.isSymbolicLink(file.toPath()) ? null : file.listFiles();
        if (inside != null) {
            for (File one : inside) {
                remove(one);
            }
        }
        Files.delete(file.toPath());
    }
}
