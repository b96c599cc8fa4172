import java.io.IOException;
import java.nio.charset.StandardCharsets;
import java.nio.file.Files;
import java.nio.file.Path;

/** The files of the project, for tests that read them. */
final class Project {
    private Project() {
    }

    // .ci/run says where the project is, since it may be called from any folder.
    static Path file(String name) {
        return Path.of(System.getProperty("milkbox.root", ".")).resolve(name);
    }

    static String text(String name) throws IOException {
        return Files.readString(file(name), StandardCharsets.UTF_8);
    }
}
