import java.io.IOException;
import java.nio.charset.StandardCharsets;
import java.nio.file.Files;
import java.nio.file.Path;
import java.nio.file.StandardCopyOption;
import java.util.ArrayList;
import java.util.Collections;
import java.util.List;
import java.util.concurrent.TimeUnit;
import java.util.stream.Stream;

/** A checkout of its own, with a shared directory beside it, in which a test may do as it likes. */
final class Checkout {
    /** Set where commands run, so that a test of commands that run all tests does not run itself. */
    static final String INSIDE = "UNIKERNELHTTP_INSIDE_A_CHECKOUT";

    private final Path root;
    final Path main;
    private final Path printed;

    Checkout() throws IOException {
        root = Files.createTempDirectory("checkout");
        main = Files.createDirectory(root.resolve("main"));
        printed = root.resolve("printed");
    }

    static boolean isInside() {
        return System.getenv(INSIDE) != null;
    }

    /** Copies a file or a directory of this project to the same place in the checkout. */
    void copy(String name) throws IOException {
        for (Path path : list(Path.of(name))) {
            if (Files.isRegularFile(path)) {
                Files.createDirectories(main.resolve(path).getParent());
                Files.copy(path, main.resolve(path), StandardCopyOption.COPY_ATTRIBUTES);
            }
        }
    }

    /** Puts the shared directory that is beside this project beside the checkout, too. */
    void share() throws IOException {
        Files.createSymbolicLink(root.resolve("shared"), Path.of("../shared").toRealPath());
    }

    void write(String name, String text) throws IOException {
        Path file = main.resolve(name).normalize();
        Files.createDirectories(file.getParent());
        Files.writeString(file, text);
    }

    Process start(String... command) throws IOException {
        ProcessBuilder builder = new ProcessBuilder(command);
        builder.directory(main.toFile());
        builder.environment().put(INSIDE, "1");
        builder.redirectErrorStream(true);
        builder.redirectOutput(printed.toFile());
        return builder.start();
    }

    /** The exit code of a command, -1 if it does not end. */
    static int end(Process process) throws InterruptedException {
        if (!process.waitFor(10, TimeUnit.MINUTES)) {
            process.destroyForcibly();
            return -1;
        }
        return process.exitValue();
    }

    /** What the last command printed. */
    String printed() throws IOException {
        return new String(Files.readAllBytes(printed), StandardCharsets.ISO_8859_1);
    }

    void remove() throws IOException {
        List<Path> paths = list(root);
        Collections.reverse(paths);
        for (Path path : paths) {
            Files.delete(path);
        }
    }

    private static List<Path> list(Path top) throws IOException {
        try (Stream<Path> all = Files.walk(top)) {
            return new ArrayList<>(all.toList());
        }
    }
}
