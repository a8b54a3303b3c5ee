/** "what is refused changes nothing (but THE TAPE, as told)", and what only asks changes nothing either. */
public final class RefusedTest {
    private static final int BAD = -1, STATE = -2, FULL = -3, NONE = -4;
    private static final int LEAST = Integer.MIN_VALUE, MOST = Integer.MAX_VALUE;
    private static final Due due = new Due("RefusedTest");

    private final String name;
    private final Scene scene;
    private final String before;
    private final int terms;

    private RefusedTest(String name, Scene scene) {
        this.name = name;
        this.scene = scene;
        before = scene.state();
        terms = scene.answer(x -> x.count(0));
    }

    public static void main(String[] args) {
        RefusedTest fresh = new RefusedTest("a new object", new Scene());
        RefusedTest some = new RefusedTest("some TERMS", some());
        RefusedTest full = new RefusedTest("32 TERMS", full());
        RefusedTest[] all = {fresh, some, full};
        for (RefusedTest one : all) {
            one.wrongTerms();
            one.wrongNumbers();
        }
        fresh.nothingThere();
        some.wrongWays();
        some.refusedByTheTerm();
        some.questions();
        some.faultsEmptyTheTapeAlone();
        full.wrongWays();
        full.fullShelf();
        full.questions();
        due.finish();
    }

    /** A latest FAULT, STEPS that ended by FULL, a latest TYPE, and a text on THE TAPE. */
    private static Scene some() {
        return new Scene().terms("\\f x.f (f x)", "(\\x.x x x)(\\x.x x x)", "\\x.x x", Due.sized(500), "I X",
                "\\x." + Due.many("X", 250), "K", "\\y.q")
                .then(x -> x.steps(1, 0, 200), x -> x.typed(6)).tape("\\x y.x (y K) 12");
    }

    private static Scene full() {
        return some().then(x -> x.end(0)).copies(6, 32).tape(Due.many("K(S)x ", 100));
    }

    private void refused(String call, Scene.Call made, int want) {
        String whole = call + " with " + name;
        due.is(whole, scene.answer(made), want);
        due.is("changed by " + whole, scene.then(made).state().equals(before) ? "" : scene.then(made).state(), "");
    }

    /** "there is no such TERM" */
    private void wrongTerms() {
        int[] wrong = {LEAST, -1, terms, terms + 1, 32, MOST};
        for (int t : wrong) {
            refused("size " + t, x -> x.size(t), BAD);
            refused("code " + t, x -> x.code(t, 0), BAD);
            refused("letter " + t, x -> x.letter(t, 0), BAD);
            refused("apply " + t, x -> x.apply(t, 0), BAD);
            refused("apply to " + t, x -> x.apply(0, t), BAD);
            refused("copy " + t, x -> x.copy(t), BAD);
            refused("same " + t, x -> x.same(t, 0), BAD);
            refused("same to " + t, x -> x.same(0, t), BAD);
            refused("step " + t, x -> x.step(t, 0), BAD);
            refused("steps " + t, x -> x.steps(t, 0, 9), BAD);
            refused("redex " + t, x -> x.redex(t, 0), BAD);
            refused("redexes " + t, x -> x.redexes(t), BAD);
            refused("abstracted " + t, x -> x.abstracted(t), BAD);
            refused("number " + t, x -> x.number(t), BAD);
            refused("read " + t, x -> x.read(t, 9), BAD);
            refused("typed " + t, x -> x.typed(t), BAD);
            refused("about " + t, x -> x.about(t, 0), BAD);
        }
    }

    /** "a number is not as told", where no TERM is asked for. */
    private void wrongNumbers() {
        int bytes = scene.answer(x -> x.count(1));
        int[] ends = {LEAST, -1, bytes + 1, 601, MOST};
        for (int n : ends) {
            refused("end " + n, x -> x.end(n), BAD);
        }
        int[] whats = {LEAST, -1, 3, MOST};
        for (int what : whats) {
            refused("told " + what, x -> x.told(what), BAD);
            refused("count " + what, x -> x.count(what), BAD);
        }
        refused("told 2", x -> x.told(2), BAD);
        int[] places = {LEAST, -1, 500, MOST};
        for (int i : places) {
            refused("type " + i, x -> x.type(i), BAD);
        }
    }

    private void nothingThere() {
        refused("drop", LambdaShelf::drop, NONE);
        refused("type 0", x -> x.type(0), BAD);
    }

    private void wrongWays() {
        int[] ways = {LEAST, -1, 4, MOST};
        for (int way : ways) {
            refused("step by way " + way, x -> x.step(4, way), BAD);
            refused("steps by way " + way, x -> x.steps(4, way, 9), BAD);
            refused("redex by way " + way, x -> x.redex(4, way), BAD);
        }
        int[] fuels = {LEAST, -1, 201, MOST};
        for (int n : fuels) {
            refused("steps of " + n, x -> x.steps(4, 0, n), BAD);
            refused("read of " + n, x -> x.read(4, n), BAD);
        }
        int[] whats = {LEAST, -1, 5, MOST};
        for (int what : whats) {
            refused("about " + what, x -> x.about(4, what), BAD);
        }
        int[] places = {LEAST, -1, 3, MOST};
        for (int i : places) {
            refused("code at " + i, x -> x.code(4, i), BAD);
        }
        int[] letters = {LEAST, -1, 4, MOST};
        for (int i : letters) {
            refused("letter at " + i, x -> x.letter(4, i), BAD);
        }
    }

    /** FULL by SIZE, NONE and STATE */
    private void refusedByTheTerm() {
        refused("step to more than 500", x -> x.step(1, 0), FULL);
        refused("step to more than 500, inside", x -> x.step(1, 1), FULL);
        refused("step to more than 500, head", x -> x.step(1, 2), FULL);
        refused("apply of more than 500", x -> x.apply(3, 0), FULL);
        refused("apply to more than 500", x -> x.apply(0, 3), FULL);
        refused("abstracted to more than 500", x -> x.abstracted(5), FULL);
        refused("abstracted to more than 500, 1", x -> x.abstracted(3), FULL);
        refused("read of more than 500", x -> x.read(3, 200), FULL);
        refused("read to more than 500", x -> x.read(1, 200), FULL);
        refused("read that has not ended", x -> x.read(0, 1), STATE);
        refused("read that ends elsewhere", x -> x.read(6, 9), NONE);
        refused("number of none", x -> x.number(6), NONE);
        refused("typed of none", x -> x.typed(2), NONE);
        refused("redex of none", x -> x.redex(6, 0), NONE);
        refused("redex of none, inside", x -> x.redex(6, 1), NONE);
        refused("redex of none, head", x -> x.redex(6, 2), NONE);
        refused("redex of none, shortening", x -> x.redex(6, 3), NONE);
        refused("step where there is none", x -> x.step(6, 0), 0);
        refused("step where there is none, inside", x -> x.step(6, 1), 0);
        refused("step where there is none, head", x -> x.step(6, 2), 0);
        refused("step where there is none, shortening", x -> x.step(6, 3), 0);
    }

    /** FULL by 32 TERMS and by 600 bytes */
    private void fullShelf() {
        refused("term", LambdaShelf::term, FULL);
        refused("copy", x -> x.copy(0), FULL);
        refused("apply", x -> x.apply(0, 0), FULL);
        refused("abstracted", x -> x.abstracted(0), FULL);
        refused("feed", x -> x.feed(0x53535353, 0x53535353, 0x53535353, 0x53535353, 0x53535353), FULL);
        RefusedTest fewer = new RefusedTest("581 bytes", scene.then(x -> x.end(581)));
        fewer.refused("feed", x -> x.feed(0x53535353, 0x53535353, 0x53535353, 0x53535353, 0x53535353), FULL);
    }

    private void asked(String call, Scene.Call made) {
        due.is("refused: " + call + " with " + name, scene.answer(made) < 0 ? 1 : 0, 0);
        due.is("changed by " + call + " with " + name, scene.then(made).state().equals(before) ? "" : "it", "");
    }

    /** Calls that promise an answer alone. */
    private void questions() {
        asked("fault", LambdaShelf::fault);
        asked("size", x -> x.size(0));
        asked("code", x -> x.code(0, 0));
        asked("letter", x -> x.letter(0, 0));
        asked("letter at the end", x -> x.letter(6, 1));
        asked("same", x -> x.same(0, 1));
        asked("told", x -> x.told(0));
        asked("redexes", x -> x.redexes(1));
        asked("number", x -> x.number(0));
        asked("read", x -> x.read(0, 200));
        asked("type", x -> x.type(0));
        asked("count", x -> x.count(2));
        int bytes = scene.answer(x -> x.count(1));
        asked("end at the length", x -> x.end(bytes));
        for (int w = 0; w <= 2; w++) {
            int way = w;
            asked("redex by way " + way, x -> x.redex(1, way));
        }
        for (int w = 0; w <= 4; w++) {
            int what = w;
            asked("about " + what, x -> x.about(1, what));
        }
    }

    /** A FAULT takes THE TAPE and is told; all else stays. */
    private void faultsEmptyTheTapeAlone() {
        String[] texts = {"$", ")", "q", Due.many("(", 41), Due.many("X", 251)};
        for (int i = 0; i < texts.length; i++) {
            Scene empty = scene.then(x -> x.end(0));
            Scene read = empty.term(texts[i]);
            String left = read.state().replace("fault " + (i + 1) + "\n", "fault 3\n");
            due.is("changed by FAULT " + (i + 1), left.equals(empty.state()) ? "" : left, "");
        }
    }
}
