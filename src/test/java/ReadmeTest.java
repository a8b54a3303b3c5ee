import java.io.IOException;
import java.lang.reflect.Method;
import java.lang.reflect.Modifier;
import java.nio.file.Files;
import java.nio.file.Path;
import java.util.List;
import java.util.TreeSet;
import java.util.regex.Matcher;
import java.util.regex.Pattern;
import java.util.stream.Stream;

/** README.md: its example does what it says, and it names every call, every class inside and every test. */
public final class ReadmeTest {
    private static final Due due = new Due("ReadmeTest");

    public static void main(String[] args) throws IOException {
        due.is("README.md is there", Readme.text().isEmpty() ? 1 : 0, 0);
        exampleIsRunHere();
        example();
        classes();
        calls();
        tests();
        due.finish();
    }

    private static void example() {
        LambdaShelf shelf = new LambdaShelf();
        shelf.feed(0x285C782E, 0x78207829, 0x204B2020, 0x20202020, 0x20202020); // (\x.x x) K
        int t = shelf.term();          // 0: its number; -10 or below: -10 less the place of its FAULT
        due.is("term()", t, 0);
        due.is("its text", Due.text(shelf, t), "(\\a.a a) K");
        shelf.steps(t, 0, 200);        // 1: how many STEPS it took
        due.is("its text behind the STEPS", Due.text(shelf, t), "K K");
        shelf.letter(t, 0);            // 'K': byte by byte its text, K K, then 0
        due.is("letter(t, 0)", shelf.letter(t, 0), 'K');
        due.is("letter(t, 3)", shelf.letter(t, 3), 0);
        shelf.typed(t);                // 7: the length of its TYPE; type(0) .. type(6) are its CODE
        due.is("typed(t)", shelf.typed(t), 7);
        due.is("the TYPE", Due.type(shelf), "0 1 0 2 0 3 2");
        int a = shelf.abstracted(t);   // 1: the same without LAMBDAS, as a new TERM
        due.is("abstracted(t)", a, 1);
        due.is("about(a, 1)", shelf.about(a, 1), 0);
    }

    /** Each line of README.md's example stands in example(), where it is run and looked at. */
    private static void exampleIsRunHere() throws IOException {
        List<String> here = Files.readString(Path.of("src/test/java/ReadmeTest.java")).lines()
                .map(String::strip).toList();
        List<String> lines = Readme.block("## Use", "java").lines().map(String::strip).toList();
        due.is("there is an example", lines.size() > 3 ? 1 : 0, 1);
        for (String line : lines) {
            due.is("it is run: " + line, here.contains(line) ? 1 : 0, 1);
        }
    }

    private static void classes() throws IOException {
        TreeSet<String> inside = new TreeSet<>();
        for (Class<?> inner : LambdaShelf.class.getDeclaredClasses()) {
            inside.add(inner.getSimpleName());
        }
        due.is("the classes it names", firstCells("## How it is built"), String.join(" ", inside));
    }

    private static void calls() throws IOException {
        TreeSet<String> face = new TreeSet<>();
        for (Method method : LambdaShelf.class.getDeclaredMethods()) {
            if (Modifier.isPublic(method.getModifiers())) {
                face.add(method.getName());
            }
        }
        due.is("the calls it names", firstCells("## Use"), String.join(" ", face));
    }

    private static void tests() throws IOException {
        TreeSet<String> there = new TreeSet<>();
        try (Stream<Path> files = Files.list(Path.of("src/test/java"))) {
            for (Path file : files.toList()) {
                String name = file.getFileName().toString();
                if (name.endsWith("Test.java")) {
                    there.add(name.substring(0, name.length() - ".java".length()));
                }
            }
        }
        due.is("the tests it names", firstCells("## Tests"), String.join(" ", there));
        due.is("it names .ci/run", Readme.section("## Tests").contains("\n    .ci/run\n") ? 1 : 0, 1);
        due.is(".ci/run can be run", Files.isExecutable(Path.of(".ci/run")) ? 1 : 0, 1);
    }

    /** The names in the first cells of the rows of a section's table, sorted. */
    private static String firstCells(String heading) throws IOException {
        TreeSet<String> names = new TreeSet<>();
        Matcher row = Pattern.compile("(?m)^\\| (`.*?`) \\|").matcher(Readme.section(heading));
        while (row.find()) {
            Matcher name = Pattern.compile("`(\\w+)").matcher(row.group(1));
            while (name.find()) {
                names.add(name.group(1));
            }
        }
        return String.join(" ", names);
    }
}
