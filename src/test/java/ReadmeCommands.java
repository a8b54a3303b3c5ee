import java.io.IOException;
import java.nio.file.Files;
import java.nio.file.Path;
import java.util.TreeSet;

/** Whether README.md gives just those commands for running the tests that .ci/run has run. */
public final class ReadmeCommands {
    private static final Due due = new Due("ReadmeCommands");

    /** The file that holds the commands that were run, one a line. */
    public static void main(String[] args) throws IOException {
        TreeSet<String> ran = new TreeSet<>(Files.readAllLines(Path.of(args[0])));
        TreeSet<String> given = new TreeSet<>();
        for (String line : Readme.block("## Tests", "sh").lines().map(String::strip).toList()) {
            if (line.startsWith("javac ") || line.startsWith("java ")) {
                given.add(line);
            }
        }
        due.is("commands were run", ran.isEmpty() ? 1 : 0, 0);
        due.is("the commands that README.md gives", String.join("\n", given), String.join("\n", ran));
        due.finish();
    }
}
