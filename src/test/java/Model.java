import java.util.ArrayList;
import java.util.IdentityHashMap;
import java.util.List;
import java.util.Map;

/**
 * The document once more, written another way: trees with names of their own instead of rows of
 * cells, methods that call themselves, exceptions. Slow and plain, to be compared with.
 */
final class Model {
    static final int BAD = -1, STATE = -2, FULL = -3, NONE = -4;

    /** kind: 'a' apply, 'l' lambda, 'v' variable, else a letter; a variable points to its lambda. */
    static final class Node {
        final char kind;
        Node first;
        Node second;
        Node binder;

        Node(char kind) {
            this.kind = kind;
        }
    }

    static final class Fault extends RuntimeException {
        private static final long serialVersionUID = 1;
        final int kind;
        final int place;

        Fault(int kind, int place) {
            this.kind = kind;
            this.place = place;
        }
    }

    static final class Over extends RuntimeException {
        private static final long serialVersionUID = 1;
    }

    private final StringBuilder tape = new StringBuilder();
    private final List<Node> terms = new ArrayList<>();
    private int fault;
    private int ending;
    private int greatest;
    private List<Integer> type = new ArrayList<>();

    // ---- the face

    int feed(int a, int b, int c, int d, int e) {
        if (tape.length() > 580) {
            return FULL;
        }
        for (int four : new int[] {a, b, c, d, e}) {
            for (int i = 3; i >= 0; i--) {
                tape.append((char) (four >> 8 * i & 255));
            }
        }
        return tape.length();
    }

    int end(int n) {
        if (n < 0 || n > tape.length()) {
            return BAD;
        }
        int had = tape.length();
        tape.setLength(n);
        return had;
    }

    int term() {
        if (terms.size() == 32) {
            return FULL;
        }
        String text = tape.toString();
        tape.setLength(0);
        try {
            Node read = new Parser(text).whole();
            if (sizeOf(read) > 500) {
                throw new Fault(5, 0);
            }
            terms.add(read);
            fault = 0;
            return terms.size() - 1;
        } catch (Fault f) {
            fault = f.kind;
            return -10 - f.place;
        }
    }

    int fault() {
        return fault;
    }

    int size(int t) {
        return has(t) ? sizeOf(terms.get(t)) : BAD;
    }

    int code(int t, int i) {
        if (!has(t)) {
            return BAD;
        }
        List<Integer> code = codeOf(terms.get(t));
        return i >= 0 && i < code.size() ? code.get(i) : BAD;
    }

    String code(int t) {
        StringBuilder code = new StringBuilder();
        for (int cell : codeOf(terms.get(t))) {
            code.append(code.length() == 0 ? "" : " ").append(cell);
        }
        return code.toString();
    }

    int letter(int t, int i) {
        if (!has(t)) {
            return BAD;
        }
        String text = textOf(terms.get(t), new ArrayList<>());
        return i < 0 || i > text.length() ? BAD : i == text.length() ? 0 : text.charAt(i);
    }

    int apply(int t, int u) {
        if (!has(t) || !has(u)) {
            return BAD;
        }
        return keep(made(copyOf(terms.get(t)), copyOf(terms.get(u))));
    }

    int copy(int t) {
        return has(t) ? keep(copyOf(terms.get(t))) : BAD;
    }

    int same(int t, int u) {
        if (!has(t) || !has(u)) {
            return BAD;
        }
        return codeOf(terms.get(t)).equals(codeOf(terms.get(u))) ? 1 : 0;
    }

    int step(int t, int way) {
        if (!has(t) || way < 0 || way > 3) {
            return BAD;
        }
        Node turned = turned(terms.get(t), way);
        if (turned == null) {
            return 0;
        }
        if (sizeOf(turned) > 500) {
            return FULL;
        }
        terms.set(t, turned);
        return 1;
    }

    int steps(int t, int way, int n) {
        if (!has(t) || way < 0 || way > 3 || n < 0 || n > 200) {
            return BAD;
        }
        int done = 0;
        int answer = 1;
        greatest = 0;
        while (done < n && (answer = step(t, way)) == 1) {
            done++;
            greatest = Math.max(greatest, size(t));
        }
        ending = done == n ? 1 : answer == 0 ? 0 : 2;
        return done;
    }

    int told(int what) {
        return what == 0 ? ending : what == 1 ? greatest : BAD;
    }

    int redex(int t, int way) {
        if (!has(t) || way < 0 || way > 3) {
            return BAD;
        }
        Node node = next(terms.get(t), way);
        return node == null ? NONE : inOrder(terms.get(t)).indexOf(node);
    }

    int redexes(int t) {
        if (!has(t)) {
            return BAD;
        }
        return (int) inOrder(terms.get(t)).stream().filter(n -> become(n) != null).count();
    }

    int abstracted(int t) {
        if (!has(t)) {
            return BAD;
        }
        if (terms.size() == 32) {
            return FULL;
        }
        try {
            return keep(withoutLambdas(copyOf(terms.get(t))));
        } catch (Over o) {
            return FULL;
        }
    }

    int number(int t) {
        return has(t) ? numberOf(terms.get(t)) : BAD;
    }

    int read(int t, int n) {
        if (!has(t) || n < 0 || n > 200) {
            return BAD;
        }
        Node now = made(made(copyOf(terms.get(t)), new Node('F')), new Node('X'));
        if (sizeOf(now) > 500) {
            return FULL;
        }
        for (int i = 0; next(now, 0) != null; i++) {
            if (i == n) {
                return STATE;
            }
            now = turned(now, 0);
            if (sizeOf(now) > 500) {
                return FULL;
            }
        }
        return numberOf(now);
    }

    int typed(int t) {
        if (!has(t)) {
            return BAD;
        }
        try {
            Types types = new Types();
            Type found = types.of(terms.get(t));
            List<Integer> code = new ArrayList<>();
            try {
                types.tell(found, code, new IdentityHashMap<>());
            } catch (Over o) {
                return FULL;
            }
            type = code;
            return code.size();
        } catch (Over o) {
            return NONE;
        }
    }

    int type(int i) {
        return i >= 0 && i < type.size() ? type.get(i) : BAD;
    }

    int about(int t, int what) {
        if (!has(t) || what < 0 || what > 4) {
            return BAD;
        }
        Node node = terms.get(t);
        switch (what) {
            case 0:
                return depthOf(node);
            case 1:
                return inOrder(node).stream().anyMatch(n -> n.kind == 'l') ? 1 : 0;
            case 2:
                return inOrder(node).stream().anyMatch(n -> n.kind == 'v') ? 1 : 0;
            case 3:
                return inOrder(node).stream().anyMatch(n -> n.kind < 'a') ? 1 : 0;
            default:
                return redexes(t) == 0 ? 1 : 0;
        }
    }

    int drop() {
        if (terms.isEmpty()) {
            return NONE;
        }
        terms.remove(terms.size() - 1);
        return terms.size();
    }

    int count(int what) {
        switch (what) {
            case 0:
                return terms.size();
            case 1:
                return tape.length();
            case 2:
                return terms.stream().mapToInt(Model::sizeOf).sum();
            default:
                return BAD;
        }
    }

    private boolean has(int t) {
        return t >= 0 && t < terms.size();
    }

    private int keep(Node node) {
        if (terms.size() == 32 || sizeOf(node) > 500) {
            return FULL;
        }
        terms.add(node);
        return terms.size() - 1;
    }

    // ---- trees

    static Node made(Node first, Node second) {
        Node apply = new Node('a');
        apply.first = first;
        apply.second = second;
        return apply;
    }

    static int sizeOf(Node n) {
        return n == null ? 0 : 1 + sizeOf(n.first) + sizeOf(n.second);
    }

    static int depthOf(Node n) {
        return n == null ? 0 : (n.kind == 'l' ? 1 : 0) + Math.max(depthOf(n.first), depthOf(n.second));
    }

    static List<Node> inOrder(Node n) {
        List<Node> all = new ArrayList<>();
        collect(n, all);
        return all;
    }

    private static void collect(Node n, List<Node> all) {
        if (n != null) {
            all.add(n);
            collect(n.first, all);
            collect(n.second, all);
        }
    }

    static Node copyOf(Node n) {
        return replaced(n, null, null, new IdentityHashMap<>());
    }

    /** A copy with another for each NODE that is 'what', or a VARIABLE of the LAMBDA 'what'. */
    private static Node replaced(Node n, Node what, Node by, Map<Node, Node> lambdas) {
        if (what != null && (n == what || n.kind == 'v' && n.binder == what)) {
            return replaced(by, null, null, lambdas);
        }
        Node copy = new Node(n.kind);
        if (n.kind == 'l') {
            Node before = lambdas.put(n, copy);
            copy.first = replaced(n.first, what, by, lambdas);
            if (before == null) {
                lambdas.remove(n);
            } else {
                lambdas.put(n, before);
            }
        } else if (n.kind == 'a') {
            copy.first = replaced(n.first, what, by, lambdas);
            copy.second = replaced(n.second, what, by, lambdas);
        } else if (n.kind == 'v') {
            copy.binder = lambdas.getOrDefault(n.binder, n.binder);
        }
        return copy;
    }

    static List<Integer> codeOf(Node n) {
        List<Integer> code = new ArrayList<>();
        putCode(n, new ArrayList<>(), code);
        return code;
    }

    private static void putCode(Node n, List<Node> around, List<Integer> code) {
        switch (n.kind) {
            case 'a':
                code.add(0);
                putCode(n.first, around, code);
                putCode(n.second, around, code);
                break;
            case 'l':
                code.add(1);
                around.add(n);
                putCode(n.first, around, code);
                around.remove(around.size() - 1);
                break;
            case 'v':
                if (!around.contains(n.binder)) {
                    throw new IllegalStateException("a VARIABLE that is not bound");
                }
                code.add(10 + around.size() - 1 - around.indexOf(n.binder));
                break;
            default:
                code.add(2 + "SKIFX".indexOf(n.kind));
        }
    }

    static String nameOf(int depth) {
        String last = String.valueOf((char) ('a' + depth % 26));
        return depth < 26 ? last : nameOf(depth / 26 - 1) + last;
    }

    static String textOf(Node n, List<Node> around) {
        if (n.kind == 'v') {
            return nameOf(around.indexOf(n.binder));
        }
        if (n.kind == 'l') {
            around.add(n);
            String body = textOf(n.first, around);
            around.remove(around.size() - 1);
            return "\\" + nameOf(around.size()) + "." + body;
        }
        if (n.kind != 'a') {
            return String.valueOf(n.kind);
        }
        String first = textOf(n.first, around);
        String second = textOf(n.second, around);
        boolean leaf = n.second.kind != 'a' && n.second.kind != 'l';
        return (n.first.kind == 'l' ? "(" + first + ")" : first) + " " + (leaf ? second : "(" + second + ")");
    }

    // ---- turning

    static boolean occurs(Node lambda, Node in) {
        return in != null && (in.kind == 'v' && in.binder == lambda
                || occurs(lambda, in.first) || occurs(lambda, in.second));
    }

    /** What a REDEX becomes; null: it is none. */
    static Node become(Node n) {
        if (n.kind != 'a') {
            return null;
        }
        Node f = n.first;
        if (f.kind == 'l') {
            return replaced(f.first, f, n.second, new IdentityHashMap<>());
        }
        if (f.kind == 'I') {
            return copyOf(n.second);
        }
        if (f.kind == 'a' && f.first.kind == 'K') {
            return copyOf(f.second);
        }
        if (f.kind == 'a' && f.first.kind == 'a' && f.first.first.kind == 'S') {
            return made(made(copyOf(f.first.second), copyOf(n.second)),
                    made(copyOf(f.second), copyOf(n.second)));
        }
        return null;
    }

    static Node shortened(Node n) {
        boolean fits = n.kind == 'l' && n.first.kind == 'a' && n.first.second.kind == 'v'
                && n.first.second.binder == n && !occurs(n, n.first.first);
        return fits ? copyOf(n.first.first) : null;
    }

    static Node next(Node whole, int way) {
        if (way == 2) {
            for (Node n = whole; n.kind == 'a'; n = n.first) {
                if (become(n) != null) {
                    return n;
                }
            }
            return null;
        }
        for (Node n : inOrder(whole)) {
            if (way == 3 ? shortened(n) != null : become(n) != null) {
                if (way != 1 || inOrder(n).stream().filter(m -> become(m) != null).count() == 1) {
                    return n;
                }
            }
        }
        return null;
    }

    static Node turned(Node whole, int way) {
        Node at = next(whole, way);
        if (at == null) {
            return null;
        }
        Node by = way == 3 ? shortened(at) : become(at);
        return replaced(whole, at, by, new IdentityHashMap<>());
    }

    // ---- without LAMBDAS

    static Node withoutLambdas(Node n) {
        if (n.kind == 'a') {
            return made(withoutLambdas(n.first), withoutLambdas(n.second));
        }
        if (n.kind != 'l') {
            return n;
        }
        Node taken = takenOut(n, withoutLambdas(n.first));
        if (sizeOf(taken) > 500) {
            throw new Over();
        }
        return taken;
    }

    static Node takenOut(Node lambda, Node t) {
        if (t.kind == 'v' && t.binder == lambda) {
            return new Node('I');
        }
        if (!occurs(lambda, t)) {
            return made(new Node('K'), t);
        }
        if (t.second.kind == 'v' && t.second.binder == lambda && !occurs(lambda, t.first)) {
            return t.first;
        }
        return made(made(new Node('S'), takenOut(lambda, t.first)), takenOut(lambda, t.second));
    }

    // ---- numbers

    static int numberOf(Node n) {
        if (n.kind != 'l') {
            return chain(n, 'F', null, 'X', null);
        }
        if (n.first.kind == 'v') {
            return 1;
        }
        return n.first.kind == 'l' ? chain(n.first.first, 'v', n, 'v', n.first) : NONE;
    }

    private static int chain(Node n, char link, Node linkBinder, char last, Node lastBinder) {
        int many = 0;
        while (n.kind == 'a' && n.first.kind == link && n.first.binder == linkBinder) {
            n = n.second;
            many++;
        }
        return n.kind == last && n.binder == lastBinder ? many : NONE;
    }

    // ---- reading

    private static final class Parser {
        private final String text;
        private int at;
        private int start;
        private String token;
        private final List<String> names = new ArrayList<>();
        private final List<Node> binders = new ArrayList<>();
        private int open;

        Parser(String text) {
            this.text = text;
        }

        Node whole() {
            advance();
            Node read = term();
            if (!token.isEmpty()) {
                throw new Fault(2, start);
            }
            return read;
        }

        /** The next TOKEN; an empty one is the end. */
        private void advance() {
            while (at < text.length() && text.charAt(at) == ' ') {
                at++;
            }
            start = at;
            String rest = text.substring(at);
            if (rest.isEmpty()) {
                token = "";
                return;
            }
            token = longest(rest, "abcdefghijklmnopqrstuvwxyz");
            if (token.isEmpty()) {
                token = longest(rest, "0123456789");
                if (token.length() > 2 || !token.isEmpty() && Integer.parseInt(token) > 20) {
                    throw new Fault(1, start);
                }
            } else if (token.length() > 8) {
                throw new Fault(1, start);
            }
            if (token.isEmpty()) {
                token = rest.substring(0, 1);
                if (!"SKIFX()\\.".contains(token)) {
                    throw new Fault(1, start);
                }
            }
            at += token.length();
        }

        private static String longest(String rest, String of) {
            int n = 0;
            while (n < rest.length() && of.indexOf(rest.charAt(n)) >= 0) {
                n++;
            }
            return rest.substring(0, n);
        }

        private Node term() {
            Node row = part();
            while (!token.isEmpty() && !token.equals(")") && !token.equals(".")) {
                row = made(row, part());
            }
            return row;
        }

        private boolean isName() {
            return !token.isEmpty() && token.charAt(0) >= 'a' && token.charAt(0) <= 'z';
        }

        private void openOne() {
            if (open == 40) {
                throw new Fault(4, start);
            }
            open++;
        }

        private Node part() {
            if (token.isEmpty() || token.equals(")") || token.equals(".")) {
                throw new Fault(2, start);
            }
            if (isName()) {
                int which = names.lastIndexOf(token);
                if (which < 0) {
                    throw new Fault(3, start);
                }
                Node variable = new Node('v');
                variable.binder = binders.get(which);
                advance();
                return variable;
            }
            if (token.equals("(")) {
                openOne();
                advance();
                Node inner = term();
                if (!token.equals(")")) {
                    throw new Fault(2, start);
                }
                open--;
                advance();
                return inner;
            }
            if (token.equals("\\")) {
                advance();
                return lambda(true);
            }
            Node leaf = Character.isDigit(token.charAt(0))
                    ? numeral(Integer.parseInt(token)) : new Node(token.charAt(0));
            advance();
            return leaf;
        }

        private Node lambda(boolean isFirst) {
            if (!isFirst && token.equals(".")) {
                advance();
                return term();
            }
            if (!isName()) {
                throw new Fault(2, start);
            }
            openOne();
            Node lambda = new Node('l');
            names.add(token);
            binders.add(lambda);
            advance();
            lambda.first = lambda(false);
            names.remove(names.size() - 1);
            binders.remove(binders.size() - 1);
            open--;
            return lambda;
        }

        private static Node numeral(int n) {
            Node f = new Node('l');
            Node x = new Node('l');
            f.first = x;
            Node body = new Node('v');
            body.binder = x;
            for (int i = 0; i < n; i++) {
                Node link = new Node('v');
                link.binder = f;
                body = made(link, body);
            }
            x.first = body;
            return f;
        }
    }

    // ---- types

    private static final class Type {
        Type from;
        Type to;
        Type is;
    }

    /** From the leaves up, with a look for circles at each step; Over: there is no TYPE. */
    private static final class Types {
        private final Map<Node, Type> bound = new IdentityHashMap<>();
        private final Type shared = new Type();

        private static Type arrow(Type from, Type to) {
            Type arrow = new Type();
            arrow.from = from;
            arrow.to = to;
            return arrow;
        }

        private static Type now(Type t) {
            while (t.is != null) {
                t = t.is;
            }
            return t;
        }

        Type of(Node n) {
            Type a = new Type();
            Type b = new Type();
            Type c = new Type();
            switch (n.kind) {
                case 'v':
                    return bound.get(n.binder);
                case 'l':
                    bound.put(n, a);
                    return arrow(a, of(n.first));
                case 'a':
                    Type first = of(n.first);
                    unify(first, arrow(of(n.second), a));
                    return a;
                case 'S':
                    return arrow(arrow(a, arrow(b, c)), arrow(arrow(a, b), arrow(a, c)));
                case 'K':
                    return arrow(a, arrow(b, a));
                case 'I':
                    return arrow(a, a);
                case 'F':
                    return arrow(shared, shared);
                default:
                    return shared;
            }
        }

        private void unify(Type one, Type other) {
            one = now(one);
            other = now(other);
            if (one == other) {
                return;
            }
            if (one.from == null) {
                set(one, other);
            } else if (other.from == null) {
                set(other, one);
            } else {
                unify(one.from, other.from);
                unify(one.to, other.to);
            }
        }

        private void set(Type any, Type to) {
            if (isPart(any, to, new IdentityHashMap<>())) {
                throw new Over();
            }
            any.is = to;
        }

        private boolean isPart(Type part, Type of, Map<Type, Boolean> seen) {
            of = now(of);
            if (of == part) {
                return true;
            }
            if (of.from == null || seen.put(of, true) != null) {
                return false;
            }
            return isPart(part, of.from, seen) || isPart(part, of.to, seen);
        }

        void tell(Type t, List<Integer> code, Map<Type, Integer> names) {
            t = now(t);
            if (code.size() == 500) {
                throw new Over();
            }
            if (t.from == null) {
                names.putIfAbsent(t, names.size() + 1);
                code.add(names.get(t));
            } else {
                code.add(0);
                tell(t.from, code, names);
                tell(t.to, code, names);
            }
        }
    }
}
