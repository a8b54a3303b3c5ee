import java.io.IOException;
import java.nio.file.Files;
import java.nio.file.Path;

/** README.md, for the tests that look at it; what is not there is empty. */
final class Readme {
    private Readme() {
    }

    static String text() throws IOException {
        Path file = Path.of("README.md");
        return Files.isRegularFile(file) ? Files.readString(file) : "";
    }

    /** What stands under a heading, up to the next one of its kind. */
    static String section(String heading) throws IOException {
        return between(text() + "\n## ", "\n" + heading + "\n", "\n## ");
    }

    /** The first block of a language under a heading. */
    static String block(String heading, String language) throws IOException {
        return between(section(heading), "\n```" + language + "\n", "\n```");
    }

    private static String between(String text, String before, String behind) {
        int start = text.indexOf(before);
        int end = start < 0 ? -1 : text.indexOf(behind, start + before.length());
        return end < 0 ? "" : text.substring(start + before.length(), end);
    }
}
