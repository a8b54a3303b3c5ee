import java.lang.reflect.Constructor;
import java.lang.reflect.Field;
import java.lang.reflect.Method;
import java.lang.reflect.Modifier;
import java.nio.file.Files;
import java.nio.file.Path;
import java.util.ArrayList;
import java.util.List;
import java.util.TreeSet;
import java.util.regex.Matcher;
import java.util.regex.Pattern;

/** The face, and those rules of LANGUAGE.md that a look at the file can tell. */
public final class LanguageTest {
    private static final Due due = new Due("LanguageTest");
    private static final String FACE = "about(int,int) abstracted(int) apply(int,int) code(int,int) copy(int) "
            + "count(int) drop() end(int) fault() feed(int,int,int,int,int) letter(int,int) number(int) "
            + "read(int,int) redex(int,int) redexes(int) same(int,int) size(int) step(int,int) "
            + "steps(int,int,int) term() told(int) type(int) typed(int)";

    public static void main(String[] args) throws Exception {
        face();
        inside();
        words();
        lengths();
        due.finish();
    }

    private static void face() throws Exception {
        Class<?> shelf = LambdaShelf.class;
        due.is("public final", shelf.getModifiers(), Modifier.PUBLIC | Modifier.FINAL);
        TreeSet<String> methods = new TreeSet<>();
        for (Method method : shelf.getDeclaredMethods()) {
            if (!Modifier.isPrivate(method.getModifiers())) {
                due.is(method + " is just public", method.getModifiers(), Modifier.PUBLIC);
                due.is(method + " answers an int", method.getReturnType().getName(), "int");
                List<String> types = new ArrayList<>();
                for (Class<?> type : method.getParameterTypes()) {
                    types.add(type.getName());
                }
                methods.add(method.getName() + "(" + String.join(",", types) + ")");
            }
        }
        due.is("methods", String.join(" ", methods), FACE);
        TreeSet<String> fields = new TreeSet<>();
        for (Field field : shelf.getDeclaredFields()) {
            if (!Modifier.isPrivate(field.getModifiers())) {
                fields.add(field.getName());
            }
        }
        due.is("constants", String.join(" ", fields), "BAD FULL NONE STATE");
        constant("BAD", -1);
        constant("STATE", -2);
        constant("FULL", -3);
        constant("NONE", -4);
        due.is("it stands below Object", shelf.getSuperclass().getName(), "java.lang.Object");
        due.is("interfaces", shelf.getInterfaces().length, 0);
        Constructor<?>[] constructors = shelf.getDeclaredConstructors();
        due.is("constructors", constructors.length, 1);
        due.is("the constructor is public", constructors[0].getModifiers(), Modifier.PUBLIC);
    }

    private static void constant(String name, int want) throws Exception {
        Field field = LambdaShelf.class.getDeclaredField(name);
        due.is(name, field.getInt(null), want);
        due.is(name + " is an int", field.getType().getName(), "int");
        due.is(name + " is public, static, final", field.getModifiers(),
                Modifier.PUBLIC | Modifier.STATIC | Modifier.FINAL);
    }

    private static void inside() {
        TreeSet<String> names = new TreeSet<>();
        for (String method : FACE.split(" ")) {
            names.add(method.substring(0, method.indexOf('(')));
        }
        Class<?>[] classes = LambdaShelf.class.getDeclaredClasses();
        due.is("at most twelve classes", classes.length < 12 ? 1 : 0, 1);
        for (Class<?> inner : classes) {
            due.is(inner + " is static", Modifier.isStatic(inner.getModifiers()) ? 1 : 0, 1);
            int own = 0;
            for (Field field : inner.getDeclaredFields()) {
                boolean fixed = Modifier.isStatic(field.getModifiers());
                own += fixed ? 0 : 1;
                due.is(field + " is final if static",
                        !fixed || Modifier.isFinal(field.getModifiers()) ? 1 : 0, 1);
            }
            due.is(inner + " has at most twenty fields", own <= 20 ? 1 : 0, 1);
            for (Method method : inner.getDeclaredMethods()) {
                due.is(method + " bears a name of its own", names.contains(method.getName()) ? 1 : 0, 0);
                due.is(method + " takes at most seven", method.getParameterCount() <= 7 ? 1 : 0, 1);
            }
        }
    }

    private static void words() throws Exception {
        String text = Files.readString(Path.of("src/main/java/LambdaShelf.java"));
        String bare = text.replaceAll("(?s)/\\*.*?\\*/", "").replaceAll("//[^\n]*", "")
                .replaceAll("\"[^\"]*\"", "\"\"").replaceAll("'\\\\?.'", "' '");
        Pattern ruledOut = Pattern.compile("\\b(throws?|try|catch|finally|synchronized|assert|import|package|"
                + "protected|native|volatile|transient|instanceof|Object|System\\.(?!arraycopy\\b)\\w+|"
                + "\\w+Exact|hashCode|toString|static\\s*\\{)|->|::");
        Matcher found = ruledOut.matcher(bare);
        due.is("a word that is ruled out", found.find() ? found.group() : "", "");
    }

    /** By the indents of the file: a body begins with a brace at a line's end and ends with one like it. */
    private static void lengths() throws Exception {
        List<String> lines = Files.readAllLines(Path.of("src/main/java/LambdaShelf.java"));
        for (int i = 0; i < lines.size(); i++) {
            String line = lines.get(i);
            String indent = line.substring(0, line.length() - line.stripLeading().length());
            if (line.matches(" +[\\w\\[\\] ]*\\w+\\([\\w\\[\\], ]*\\) \\{")) {
                int end = i + 1;
                while (end < lines.size() && !lines.get(end).equals(indent + "}")) {
                    end++;
                }
                due.is(line.strip() + " has at most sixty lines", end - i <= 60 ? 1 : 0, 1);
            }
        }
    }
}
