import java.util.ArrayList;
import java.util.List;
import java.util.Random;

/** Runs of calls drawn by a fixed seed, each answer compared with the model's. */
public final class ModelTest {
    private static final Due due = new Due("ModelTest");
    // What is left of 512 calls is for the look at the end.
    private static final int CALLS = 412;
    private static final int MOST_AT_ONCE = 33;

    private final Random draw;
    private final LambdaShelf shelf = new LambdaShelf();
    private final Model model = new Model();
    private final StringBuilder log = new StringBuilder();
    private final List<Scene.Call> calls = new ArrayList<>();
    private boolean wrong;

    private ModelTest(long seed) {
        draw = new Random(seed);
    }

    public static void main(String[] args) {
        int runs = args.length > 0 ? Integer.parseInt(args[0]) : 300;
        int first = args.length > 1 ? Integer.parseInt(args[1]) : 0;
        for (int seed = first; seed < first + runs; seed++) {
            ModelTest run = new ModelTest(seed);
            run.go();
            if (run.wrong) {
                System.out.println("seed " + seed + ":" + run.log);
                break;
            }
        }
        due.finish();
    }

    private void go() {
        while (calls.size() + MOST_AT_ONCE <= CALLS && !wrong) {
            one();
        }
        Scene all = new Scene().then(calls.toArray(new Scene.Call[0]));
        for (int t = 0; t < model.count(0) && !wrong; t++) {
            String want = model.code(t);
            String got = all.code(t);
            due.is("code of " + t + " at the end", got, want);
            wrong |= !got.equals(want);
        }
    }

    private void same(String name, Scene.Call call, int want) {
        int got = call.on(shelf);
        calls.add(call);
        log.append("\n  ").append(name).append(" = ").append(got);
        due.is(name, got, want);
        wrong |= got != want;
    }

    private void feedText(String text, boolean trim) {
        for (int at = 0; at < text.length(); at += 20) {
            int a = Due.four(text, at);
            int b = Due.four(text, at + 4);
            int c = Due.four(text, at + 8);
            int d = Due.four(text, at + 12);
            int e = Due.four(text, at + 16);
            same("feed " + text.substring(at, Math.min(text.length(), at + 20)),
                    x -> x.feed(a, b, c, d, e), model.feed(a, b, c, d, e));
        }
        if (trim) {
            int n = model.count(1) - (20 - text.length() % 20) % 20;
            same("end " + n, x -> x.end(n), model.end(n));
        }
    }

    private void one() {
        int t = someTerm();
        int u = someTerm();
        int way = draw.nextInt(40) == 0 ? draw.nextInt(7) - 2 : draw.nextInt(4);
        int n = draw.nextInt(30) == 0 ? draw.nextInt(210) - 5 : draw.nextInt(30);
        int i = draw.nextInt(20) == 0 ? draw.nextInt() >> draw.nextInt(31) : draw.nextInt(60) - 1;
        int what = draw.nextInt(7) - 1;
        int kind = draw.nextInt(60);
        if (kind < 12) {
            feedText(someText(), draw.nextBoolean());
            same("term", x -> x.term(), model.term());
            same("fault", x -> x.fault(), model.fault());
        } else if (kind < 14) {
            same("apply " + t + " " + u, x -> x.apply(t, u), model.apply(t, u));
        } else if (kind < 15) {
            same("copy " + t, x -> x.copy(t), model.copy(t));
        } else if (kind < 17) {
            same("same " + t + " " + u, x -> x.same(t, u), model.same(t, u));
        } else if (kind < 21) {
            same("step " + t + " " + way, x -> x.step(t, way), model.step(t, way));
        } else if (kind < 24) {
            same("steps " + t + " " + way + " " + n, x -> x.steps(t, way, n), model.steps(t, way, n));
        } else if (kind < 27) {
            same("told " + what, x -> x.told(what), model.told(what));
        } else if (kind < 30) {
            same("redex " + t + " " + way, x -> x.redex(t, way), model.redex(t, way));
        } else if (kind < 32) {
            same("redexes " + t, x -> x.redexes(t), model.redexes(t));
        } else if (kind < 34) {
            same("abstracted " + t, x -> x.abstracted(t), model.abstracted(t));
        } else if (kind < 36) {
            same("number " + t, x -> x.number(t), model.number(t));
        } else if (kind < 38) {
            same("read " + t + " " + n, x -> x.read(t, n), model.read(t, n));
        } else if (kind < 41) {
            same("typed " + t, x -> x.typed(t), model.typed(t));
            same("type " + i, x -> x.type(i), model.type(i));
        } else if (kind < 43) {
            same("type " + i, x -> x.type(i), model.type(i));
        } else if (kind < 45) {
            same("about " + t + " " + what, x -> x.about(t, what), model.about(t, what));
        } else if (kind < 49) {
            same("drop", x -> x.drop(), model.drop());
        } else if (kind < 51) {
            same("count " + what, x -> x.count(what), model.count(what));
        } else if (kind < 54) {
            same("letter " + t + " " + i, x -> x.letter(t, i), model.letter(t, i));
        } else if (kind < 56) {
            same("code " + t + " " + i, x -> x.code(t, i), model.code(t, i));
        } else if (kind < 58) {
            same("end " + i, x -> x.end(i), model.end(i));
        } else {
            feedText(someText(), false);
        }
    }

    private int someTerm() {
        int there = model.count(0);
        return draw.nextInt(25) == 0 ? draw.nextInt(40) - 3 : there == 0 ? 0 : draw.nextInt(there);
    }

    private String someText() {
        StringBuilder text = new StringBuilder();
        int budget = 1 + draw.nextInt(draw.nextInt(8) == 0 ? 120 : 14);
        int edge = draw.nextInt(30);
        if (edge < 3) {
            putEdge(text, edge);
        } else {
            putTerm(text, budget, 0, draw.nextInt(3));
        }
        int faults = draw.nextInt(5) == 0 ? 1 + draw.nextInt(2) : 0;
        for (int i = 0; i < faults && text.length() > 0; i++) {
            int at = draw.nextInt(text.length());
            String put = "() \\.abSKIFX2109$A".substring(draw.nextInt(18));
            text.replace(at, at + draw.nextInt(2), put.substring(0, 1));
        }
        return text.length() > 600 ? text.substring(0, 600) : text.toString();
    }

    /** Near to what may be open, to the greatest SIZE, to the deepest names. */
    private void putEdge(StringBuilder out, int edge) {
        int deep = edge == 0 ? 36 + draw.nextInt(8) : draw.nextInt(36);
        int closed = 0;
        out.append(edge == 2 ? "(\\zz.zz(zz(zz K)))(" : "(");
        for (int i = 0; i < deep; i++) {
            boolean lambda = edge == 2 || draw.nextBoolean();
            out.append(lambda ? "\\" + name(i % 2) + "." : "(");
            closed += lambda ? 0 : 1;
        }
        int many = edge == 1 ? 235 + draw.nextInt(20) : 1 + draw.nextInt(3);
        for (int i = 0; i < many; i++) {
            out.append("XFK".charAt(draw.nextInt(3)));
        }
        out.append(")".repeat(closed + 1));
    }

    /** taste: 0 LAMBDAS and VARIABLES, 1 LETTERS, 2 all. */
    private void putTerm(StringBuilder out, int budget, int bound, int taste) {
        int parts = budget <= 1 ? 1 : 1 + draw.nextInt(Math.min(4, budget));
        for (int i = 0; i < parts; i++) {
            int share = i == parts - 1 ? budget : Math.max(1, draw.nextInt(budget + 1) / 2);
            budget = Math.max(0, budget - share);
            out.append(draw.nextInt(9) == 0 ? "  " : " ");
            putPart(out, share, bound, taste);
        }
    }

    private void putPart(StringBuilder out, int budget, int bound, int taste) {
        if (budget > 1) {
            boolean lambda = taste != 1 && draw.nextInt(3) != 0;
            int names = 1 + draw.nextInt(2);
            boolean wrapped = !lambda || draw.nextInt(4) != 0;
            out.append(wrapped ? "(" : "");
            if (lambda) {
                out.append('\\');
                for (int i = 0; i < names; i++) {
                    out.append(name((bound + i) % 5)).append(i + 1 < names ? " " : ".");
                }
                bound += names;
            }
            putTerm(out, budget - 1, bound, taste);
            out.append(wrapped ? ")" : "");
        } else if (bound > 0 && draw.nextInt(5) != 0) {
            out.append(name(Math.max(0, bound - 1 - draw.nextInt(Math.min(bound, 4))) % 5));
        } else if (taste == 0 || draw.nextInt(8) == 0) {
            out.append(draw.nextInt(6) == 0 ? draw.nextInt(23) : draw.nextInt(4));
        } else {
            out.append("SKIFXSKI".charAt(draw.nextInt(8)));
        }
    }

    private static String name(int i) {
        return new String[] {"x", "y", "zz", "abcdefgh", "w"}[i];
    }
}
