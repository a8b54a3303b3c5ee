import java.util.Random;

/** Runs of calls drawn by a fixed seed, each answer compared with the model's. */
public final class ModelTest {
    private static final Due due = new Due("ModelTest");
    private static final int CALLS = 512;

    private final Random draw;
    private final LambdaShelf shelf = new LambdaShelf();
    private final Model model = new Model();
    private final StringBuilder log = new StringBuilder();
    private int calls;
    private boolean wrong;

    private ModelTest(long seed) {
        draw = new Random(seed);
    }

    public static void main(String[] args) {
        int runs = args.length > 0 ? Integer.parseInt(args[0]) : 300;
        int first = args.length > 1 ? Integer.parseInt(args[1]) : 0;
        for (int seed = first; seed < first + runs; seed++) {
            ModelTest run = new ModelTest(seed);
            run.go();
            if (run.wrong) {
                System.out.println("seed " + seed + ":" + run.log);
                break;
            }
        }
        due.finish();
    }

    private void go() {
        while (calls < CALLS && !wrong) {
            one();
        }
        for (int t = 0; t < 33 && !wrong; t++) {
            same("size " + t, shelf.size(t), model.size(t));
            for (int i = -1; i <= Math.max(0, shelf.size(t)); i++) {
                same("code " + t + " " + i, shelf.code(t, i), model.code(t, i));
            }
        }
    }

    private void same(String call, int got, int want) {
        calls++;
        log.append("\n  ").append(call).append(" = ").append(got);
        due.is(call, got, want);
        wrong |= got != want;
    }

    private void feedText(String text, boolean trim) {
        for (int at = 0; at < text.length(); at += 20) {
            int a = Due.four(text, at);
            int b = Due.four(text, at + 4);
            int c = Due.four(text, at + 8);
            int d = Due.four(text, at + 12);
            int e = Due.four(text, at + 16);
            same("feed " + text.substring(at, Math.min(text.length(), at + 20)),
                    shelf.feed(a, b, c, d, e), model.feed(a, b, c, d, e));
        }
        if (trim) {
            int n = model.count(1) - (20 - text.length() % 20) % 20;
            same("end " + n, shelf.end(n), model.end(n));
        }
    }

    private void one() {
        int t = someTerm();
        int u = someTerm();
        int way = draw.nextInt(40) == 0 ? draw.nextInt(7) - 2 : draw.nextInt(4);
        int n = draw.nextInt(30) == 0 ? draw.nextInt(210) - 5 : draw.nextInt(30);
        int i = draw.nextInt(20) == 0 ? draw.nextInt() >> draw.nextInt(31) : draw.nextInt(60) - 1;
        int what = draw.nextInt(7) - 1;
        int kind = draw.nextInt(60);
        if (kind < 12) {
            feedText(someText(), draw.nextBoolean());
            same("term", shelf.term(), model.term());
            same("fault", shelf.fault(), model.fault());
        } else if (kind < 14) {
            same("apply " + t + " " + u, shelf.apply(t, u), model.apply(t, u));
        } else if (kind < 15) {
            same("copy " + t, shelf.copy(t), model.copy(t));
        } else if (kind < 17) {
            same("same " + t + " " + u, shelf.same(t, u), model.same(t, u));
        } else if (kind < 21) {
            same("step " + t + " " + way, shelf.step(t, way), model.step(t, way));
        } else if (kind < 24) {
            same("steps " + t + " " + way + " " + n, shelf.steps(t, way, n), model.steps(t, way, n));
        } else if (kind < 27) {
            same("told " + what, shelf.told(what), model.told(what));
        } else if (kind < 30) {
            same("redex " + t + " " + way, shelf.redex(t, way), model.redex(t, way));
        } else if (kind < 32) {
            same("redexes " + t, shelf.redexes(t), model.redexes(t));
        } else if (kind < 34) {
            same("abstracted " + t, shelf.abstracted(t), model.abstracted(t));
        } else if (kind < 36) {
            same("number " + t, shelf.number(t), model.number(t));
        } else if (kind < 38) {
            same("read " + t + " " + n, shelf.read(t, n), model.read(t, n));
        } else if (kind < 41) {
            same("typed " + t, shelf.typed(t), model.typed(t));
            same("type " + i, shelf.type(i), model.type(i));
        } else if (kind < 43) {
            same("type " + i, shelf.type(i), model.type(i));
        } else if (kind < 45) {
            same("about " + t + " " + what, shelf.about(t, what), model.about(t, what));
        } else if (kind < 49) {
            same("drop", shelf.drop(), model.drop());
        } else if (kind < 51) {
            same("count " + what, shelf.count(what), model.count(what));
        } else if (kind < 54) {
            same("letter " + t + " " + i, shelf.letter(t, i), model.letter(t, i));
        } else if (kind < 56) {
            same("code " + t + " " + i, shelf.code(t, i), model.code(t, i));
        } else if (kind < 58) {
            same("end " + i, shelf.end(i), model.end(i));
        } else {
            feedText(someText(), false);
        }
    }

    private int someTerm() {
        int there = model.count(0);
        return draw.nextInt(25) == 0 ? draw.nextInt(40) - 3 : there == 0 ? 0 : draw.nextInt(there);
    }

    private String someText() {
        StringBuilder text = new StringBuilder();
        int budget = 1 + draw.nextInt(draw.nextInt(8) == 0 ? 120 : 14);
        int edge = draw.nextInt(30);
        if (edge < 3) {
            putEdge(text, edge);
        } else {
            putTerm(text, budget, 0, draw.nextInt(3));
        }
        int faults = draw.nextInt(5) == 0 ? 1 + draw.nextInt(2) : 0;
        for (int i = 0; i < faults && text.length() > 0; i++) {
            int at = draw.nextInt(text.length());
            String put = "() \\.abSKIFX2109$A".substring(draw.nextInt(18));
            text.replace(at, at + draw.nextInt(2), put.substring(0, 1));
        }
        return text.length() > 600 ? text.substring(0, 600) : text.toString();
    }

    /** Near to what may be open, to the greatest SIZE, to the deepest names. */
    private void putEdge(StringBuilder out, int edge) {
        int deep = edge == 0 ? 36 + draw.nextInt(8) : draw.nextInt(36);
        int closed = 0;
        out.append(edge == 2 ? "(\\zz.zz(zz(zz K)))(" : "(");
        for (int i = 0; i < deep; i++) {
            boolean lambda = edge == 2 || draw.nextBoolean();
            out.append(lambda ? "\\" + name(i % 2) + "." : "(");
            closed += lambda ? 0 : 1;
        }
        int many = edge == 1 ? 235 + draw.nextInt(20) : 1 + draw.nextInt(3);
        for (int i = 0; i < many; i++) {
            out.append("XFK".charAt(draw.nextInt(3)));
        }
        out.append(")".repeat(closed + 1));
    }

    /** taste: 0 LAMBDAS and VARIABLES, 1 LETTERS, 2 all. */
    private void putTerm(StringBuilder out, int budget, int bound, int taste) {
        int parts = budget <= 1 ? 1 : 1 + draw.nextInt(Math.min(4, budget));
        for (int i = 0; i < parts; i++) {
            int share = i == parts - 1 ? budget : Math.max(1, draw.nextInt(budget + 1) / 2);
            budget = Math.max(0, budget - share);
            out.append(draw.nextInt(9) == 0 ? "  " : " ");
            putPart(out, share, bound, taste);
        }
    }

    private void putPart(StringBuilder out, int budget, int bound, int taste) {
        if (budget > 1) {
            boolean lambda = taste != 1 && draw.nextInt(3) != 0;
            int names = 1 + draw.nextInt(2);
            boolean wrapped = !lambda || draw.nextInt(4) != 0;
            out.append(wrapped ? "(" : "");
            if (lambda) {
                out.append('\\');
                for (int i = 0; i < names; i++) {
                    out.append(name((bound + i) % 5)).append(i + 1 < names ? " " : ".");
                }
                bound += names;
            }
            putTerm(out, budget - 1, bound, taste);
            out.append(wrapped ? ")" : "");
        } else if (bound > 0 && draw.nextInt(5) != 0) {
            out.append(name(Math.max(0, bound - 1 - draw.nextInt(Math.min(bound, 4))) % 5));
        } else if (taste == 0 || draw.nextInt(8) == 0) {
            out.append(draw.nextInt(6) == 0 ? draw.nextInt(23) : draw.nextInt(4));
        } else {
            out.append("SKIFXSKI".charAt(draw.nextInt(8)));
        }
    }

    private static String name(int i) {
        return new String[] {"x", "y", "zz", "abcdefgh", "w"}[i];
    }
}
