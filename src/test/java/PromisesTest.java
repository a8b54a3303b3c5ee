/** Each promise by hand: ordinary inputs, the edges that the document names, wrong inputs. */
public final class PromisesTest {
    private static final int BAD = -1, STATE = -2, FULL = -3, NONE = -4;
    private static final Due due = new Due("PromisesTest");

    public static void main(String[] args) {
        newObject();
        tape();
        reading();
        faults();
        faultOrder();
        openLimit();
        sizeLimit();
        sizeAndCode();
        letters();
        deepNames();
        applyAndCopy();
        same();
        stepOutside();
        stepInside();
        stepHead();
        stepShortening();
        substitution();
        letterRules();
        fullSteps();
        stepsAndTold();
        redexPlaces();
        redexCounts();
        abstraction();
        abstractionEdges();
        numbers();
        readNumbers();
        types();
        typeLimits();
        abouts();
        dropAndCount();
        shelfFull();
        due.finish();
    }

    /** Promise 1 */
    private static void newObject() {
        LambdaShelf x = new LambdaShelf();
        due.is("new: count(0)", x.count(0), 0);
        due.is("new: count(1)", x.count(1), 0);
        due.is("new: count(2)", x.count(2), 0);
        due.is("new: fault()", x.fault(), 0);
        due.is("new: told(0)", x.told(0), 0);
        due.is("new: told(1)", x.told(1), 0);
        due.is("new: type(0)", x.type(0), BAD);
        due.is("new: drop()", x.drop(), NONE);
        due.is("new: size(0)", x.size(0), BAD);
        due.is("new: size(-1)", x.size(-1), BAD);
        due.is("new: end(0)", x.end(0), 0);
    }

    /** Promises 2 and 3 */
    private static void tape() {
        LambdaShelf x = new LambdaShelf();
        for (int i = 1; i <= 30; i++) {
            due.is("feed " + i, x.feed(0, 0, 0, 0, 0), 20 * i);
        }
        due.is("feed 31", x.feed(0, 0, 0, 0, 0), FULL);
        due.is("count(1)", x.count(1), 600);
        due.is("end(601)", x.end(601), BAD);
        due.is("end(-1)", x.end(-1), BAD);
        due.is("end(600)", x.end(600), 600);
        due.is("end(581)", x.end(581), 600);
        due.is("feed on 581", x.feed(0, 0, 0, 0, 0), FULL);
        due.is("end(582) on 581", x.end(582), BAD);
        due.is("end(580)", x.end(580), 581);
        due.is("feed on 580", x.feed(0, 0, 0, 0, 0), 600);
        due.is("end(0)", x.end(0), 600);
        due.is("end(1) on 0", x.end(1), BAD);
        due.is("count(1) at last", x.count(1), 0);
        due.is("bytes, highest first", x.feed(0x5C782E79, 0x205C7920, 0x2E78FF00, 0, 0), 20);
        due.is("\\x.y", x.term(), -13);
        x.feed(0x5C782E5C, 0x792E7880, 0, 0, 0);
        due.is("a byte above 127", x.term(), -17);
        due.is("its fault", x.fault(), 1);
    }

    private static void codeOf(String text, String code) {
        LambdaShelf x = new LambdaShelf();
        due.is("term of " + text, Due.term(x, text), 0);
        due.is("fault of " + text, x.fault(), 0);
        due.is("code of " + text, Due.code(x, 0), code);
        due.is("tape behind " + text, x.count(1), 0);
    }

    /** Promise 4 */
    private static void reading() {
        codeOf("S", "2");
        codeOf("SKIFX", "0 0 0 0 2 3 4 5 6");
        codeOf("  S K  (I F)X ", "0 0 0 2 3 0 4 5 6");
        codeOf("\\x.x", "1 10");
        codeOf("\\x y.x", "1 1 11");
        codeOf("\\x x.x", "1 1 10");
        codeOf("\\x.\\y.y x", "1 1 0 10 11");
        codeOf("\\x.K \\y.x y", "1 0 3 1 0 11 10");
        codeOf("(\\x.K) \\y.y", "0 1 3 1 10");
        codeOf("\\x.(\\x.x) x", "1 0 1 10 10");
        codeOf("\\ab a.ab a", "1 1 0 11 10");
        codeOf("\\a ab.a ab", "1 1 0 11 10");
        codeOf("\\abcdefgh.abcdefgh", "1 10");
        codeOf("((\\x.((x))))", "1 10");
        codeOf("0", "1 1 10");
        codeOf("1", "1 1 0 11 10");
        codeOf("03", "1 1 0 11 0 11 0 11 10");
        codeOf("00", "1 1 10");
        codeOf("\\x.x2x", "1 0 0 10 1 1 0 11 0 11 10 10");
        codeOf("\\f.f 1 f", "1 0 0 10 1 1 0 11 10 10");
        codeOf("2K0", "0 0 1 1 0 11 0 11 10 3 1 1 10");
        codeOf("S(\\x.x x)(K(I))", "0 0 2 1 0 10 10 0 3 4");
        LambdaShelf x = new LambdaShelf();
        Due.term(x, "20");
        due.is("size of 20", x.size(0), 43);
    }

    private static void faultOf(String text, int fault, int place) {
        LambdaShelf x = new LambdaShelf();
        due.is("term of '" + text + "'", Due.term(x, text), -10 - place);
        due.is("fault of '" + text + "'", x.fault(), fault);
        due.is("tape behind '" + text + "'", x.count(1), 0);
        due.is("terms behind '" + text + "'", x.count(0), 0);
    }

    /** Promises 4 and 5 */
    private static void faults() {
        faultOf("$", 1, 0);
        faultOf("  A", 1, 2);
        faultOf("S\tK", 1, 1);
        faultOf("\\x.{", 1, 3);
        faultOf("\\abcdefghi.S", 1, 1);
        faultOf("\\x. xxxxxxxxx", 1, 4);
        faultOf("21", 1, 0);
        faultOf("K 99", 1, 2);
        faultOf("000", 1, 0);
        faultOf("K 123", 1, 2);
        faultOf("", 2, 0);
        faultOf("   ", 2, 3);
        faultOf("()", 2, 1);
        faultOf(")", 2, 0);
        faultOf("S)", 2, 1);
        faultOf("(S", 2, 2);
        faultOf("(S  ", 2, 4);
        faultOf(".", 2, 0);
        faultOf("S.", 2, 1);
        faultOf("\\", 2, 1);
        faultOf("\\.S", 2, 1);
        faultOf("\\x", 2, 2);
        faultOf("\\x.", 2, 3);
        faultOf("\\x S", 2, 3);
        faultOf("\\x 1.S", 2, 3);
        faultOf("\\x(", 2, 2);
        faultOf("\\x\\y.x", 2, 2);
        faultOf("(\\x.)", 2, 4);
        faultOf("\\x.x)", 2, 4);
        faultOf("(S)) (", 2, 3);
        faultOf("x", 3, 0);
        faultOf("\\x.y", 3, 3);
        faultOf("(\\x.x) x", 3, 7);
        faultOf("\\ab.a", 3, 4);
        faultOf("\\a.ab", 3, 3);
        faultOf("K (\\x.K) (\\y.x)", 3, 13);
        LambdaShelf x = new LambdaShelf();
        Due.term(x, "y");
        due.is("fault of y", x.fault(), 3);
        Due.term(x, "K");
        due.is("fault of K behind it", x.fault(), 0);
    }

    private static void faultOrder() {
        faultOf("x $", 3, 0);
        faultOf("x )", 3, 0);
        faultOf(") $", 2, 0);
        faultOf("\\ 21", 1, 2);
        faultOf("\\x 21", 1, 3);
        faultOf("$ x", 1, 0);
        faultOf("(x", 3, 1);
        faultOf("\\x. 20 20 20 20 20 20 20 20 20 20 20 20 y", 3, 40);
    }

    private static void openLimit() {
        codeOf(Due.many("(", 40) + "S" + Due.many(")", 40), "2");
        faultOf(Due.many("(", 41) + "S", 4, 40);
        faultOf(Due.many("(", 41) + "$", 4, 40);
        faultOf(Due.many("\\x.", 41) + "x", 4, 121);
        faultOf("\\" + Due.many("x ", 41) + ".x", 4, 81);
        faultOf(Due.many("(\\x.", 20) + "(S", 4, 80);
        faultOf(Due.many("(\\x.", 20) + "\\y.y", 4, 81);
        codeOf("\\x." + Due.many("(", 39) + "x" + Due.many(")", 39), "1 10");
        codeOf("(" + Due.many("\\x.", 39) + "x)" + "(" + Due.many("\\x.", 39) + "x)",
                "0 " + Due.many("1 ", 39) + "10 " + Due.many("1 ", 39) + "10");
        codeOf(Due.many("\\x.", 40) + "x 1",
                Due.many("1 ", 40) + "0 10 1 1 0 11 10");
        faultOf(Due.many("\\x.", 39) + "(x)(x)(\\y.y)", 4, 125);
        faultOf(Due.many("\\x.", 40) + "x (", 4, 122);
    }

    private static void sizeLimit() {
        LambdaShelf x = new LambdaShelf();
        due.is("250 letters", Due.term(x, Due.many("S", 250)), 0);
        due.is("size", x.size(0), 499);
        due.is("a LAMBDA of 250 letters", Due.term(x, "\\x." + Due.many("K", 250)), 1);
        due.is("size", x.size(1), 500);
        due.is("count(2)", x.count(2), 999);
        faultOf("\\x y." + Due.many("x", 1) + Due.many("K", 249), 5, 0);
        faultOf(Due.many("S", 251), 5, 0);
        faultOf(Due.many("S", 600), 5, 0);
        faultOf(Due.many("20K", 200), 5, 0);
        faultOf("  " + Due.many("20 ", 12), 5, 0);
        faultOf(Due.many("S", 599) + ")", 2, 599);
        faultOf("(" + Due.many("S", 599), 2, 600);
        LambdaShelf y = new LambdaShelf();
        Due.feed(y, Due.many("(S", 300));
        due.is("600 bytes", y.term(), -10 - 80);
        due.is("their fault", y.fault(), 4);
        Due.feed(y, "K" + Due.many(" ", 598) + "(");
        due.is("the end of 600 bytes", y.term(), -610);
        due.is("its fault", y.fault(), 2);
    }

    /** Promises 6 and 7 */
    private static void sizeAndCode() {
        LambdaShelf x = new LambdaShelf();
        Due.term(x, "\\x y z.x z (y z)");
        due.is("size(0)", x.size(0), 10);
        due.is("code", Due.code(x, 0), "1 1 1 0 0 12 10 0 11 10");
        due.is("code(0, 9)", x.code(0, 9), 10);
        due.is("code(0, 10)", x.code(0, 10), BAD);
        due.is("code(0, -1)", x.code(0, -1), BAD);
        due.is("code(1, 0)", x.code(1, 0), BAD);
        due.is("code(-1, 0)", x.code(-1, 0), BAD);
        due.is("size(1)", x.size(1), BAD);
        due.is("code(0, most)", x.code(0, Integer.MAX_VALUE), BAD);
        due.is("code(0, least)", x.code(0, Integer.MIN_VALUE), BAD);
        due.is("code(most, 0)", x.code(Integer.MAX_VALUE, 0), BAD);
    }

    private static void textOf(String text, String told) {
        LambdaShelf x = new LambdaShelf();
        Due.term(x, text);
        due.is("text of " + text, Due.text(x, 0), told);
        due.is("end of " + text, x.letter(0, told.length()), 0);
        due.is("behind the end of " + text, x.letter(0, told.length() + 1), BAD);
        due.is("before " + text, x.letter(0, -1), BAD);
    }

    /** Promise 8 */
    private static void letters() {
        textOf("K", "K");
        textOf("SKI", "S K I");
        textOf("S(K I)", "S (K I)");
        textOf("S(K(I F))X", "S (K (I F)) X");
        textOf("\\x.x", "\\a.a");
        textOf("\\x y.x y", "\\a.\\b.a b");
        textOf("(\\x.x) K", "(\\a.a) K");
        textOf("K \\x.x", "K (\\a.a)");
        textOf("(\\x.x)(\\x.x) K", "(\\a.a) (\\a.a) K");
        textOf("\\z.(\\y.z (\\x.x y z)) z", "\\a.(\\b.a (\\c.c b a)) a");
        textOf("2", "\\a.\\b.a (a b)");
        textOf("K K (\\x.K)", "K K (\\a.K)");
        LambdaShelf x = new LambdaShelf();
        Due.term(x, "K");
        due.is("letter(1, 0)", x.letter(1, 0), BAD);
        due.is("letter(-1, 0)", x.letter(-1, 0), BAD);
        due.is("letter(0, most)", x.letter(0, Integer.MAX_VALUE), BAD);
        due.is("letter(0, least)", x.letter(0, Integer.MIN_VALUE), BAD);
    }

    private static void deepNames() {
        LambdaShelf x = new LambdaShelf();
        Due.term(x, Due.many("\\x.", 28) + "x");
        StringBuilder told = new StringBuilder();
        for (int i = 0; i < 26; i++) {
            told.append('\\').append((char) ('a' + i)).append('.');
        }
        told.append("\\aa.\\ab.ab");
        due.is("28 deep", Due.text(x, 0), told.toString());
        // Only by turning does a TERM come beyond 40 LAMBDAS.
        LambdaShelf y = new LambdaShelf();
        Due.term(y, "(\\g.g(g K)) \\f." + Due.many("\\x.", 38) + "f");
        due.is("steps of 76 deep", y.steps(0, 0, 9), 3);
        due.is("76 deep", y.about(0, 0), 76);
        due.is("first byte", y.letter(0, 0), '\\');
        // 26 names take 3 bytes, the others 4.
        due.is("the 52nd name, first", y.letter(0, 26 * 3 + 25 * 4 + 1), 'a');
        due.is("the 52nd name, second", y.letter(0, 26 * 3 + 25 * 4 + 2), 'z');
        due.is("the 53rd name, first", y.letter(0, 26 * 3 + 26 * 4 + 1), 'b');
        due.is("the 53rd name, second", y.letter(0, 26 * 3 + 26 * 4 + 2), 'a');
        due.is("its end", y.letter(0, 26 * 3 + 50 * 4 + 1), 0);
    }

    /** Promises 9 and 10 */
    private static void applyAndCopy() {
        LambdaShelf x = new LambdaShelf();
        Due.term(x, "\\x.x");
        Due.term(x, "K S");
        due.is("apply(0, 1)", x.apply(0, 1), 2);
        due.is("its code", Due.code(x, 2), "0 1 10 0 3 2");
        due.is("apply(0, 3)", x.apply(0, 3), BAD);
        due.is("apply(3, 0)", x.apply(3, 0), BAD);
        due.is("apply(-1, 0)", x.apply(-1, 0), BAD);
        due.is("apply(2, 2)", x.apply(2, 2), 3);
        due.is("its size", x.size(3), 13);
        due.is("copy(2)", x.copy(2), 4);
        due.is("copy(5)", x.copy(5), BAD);
        due.is("copy(-1)", x.copy(-1), BAD);
        due.is("step of the copy", x.step(4, 0), 1);
        due.is("the first stays", Due.code(x, 2), "0 1 10 0 3 2");
        due.is("the copy changes", Due.code(x, 4), "0 3 2");
        LambdaShelf y = new LambdaShelf();
        Due.term(y, Due.many("S", 125));
        Due.term(y, "\\x." + Due.many("S", 125));
        due.is("249 + 250 + 1", y.apply(0, 1), 2);
        due.is("500", y.size(2), 500);
        due.is("250 + 250 + 1", y.apply(1, 1), FULL);
        due.is("no more TERMS", y.count(0), 3);
        due.is("500 copied", y.copy(2), 3);
        due.is("it is alike", y.same(3, 2), 1);
    }

    /** Promise 11 */
    private static void same() {
        LambdaShelf x = new LambdaShelf();
        Due.term(x, "\\x y.x");
        Due.term(x, "\\y.\\x.(y)");
        Due.term(x, "\\y x.x");
        Due.term(x, "\\y x.x x");
        due.is("same(0, 1)", x.same(0, 1), 1);
        due.is("same(0, 2)", x.same(0, 2), 0);
        due.is("same(2, 3)", x.same(2, 3), 0);
        due.is("same(0, 0)", x.same(0, 0), 1);
        Due.term(x, "S");
        Due.term(x, "K");
        due.is("S is not K", x.same(4, 5), 0);
        due.is("same(0, 6)", x.same(0, 6), BAD);
        due.is("same(6, 0)", x.same(6, 0), BAD);
        due.is("same(-1, -1)", x.same(-1, -1), BAD);
    }

    private static void stepOf(String text, int way, int place, String told) {
        LambdaShelf x = new LambdaShelf();
        Due.term(x, text);
        String name = text + " by way " + way;
        due.is("redex of " + name, x.redex(0, way), place);
        due.is("step of " + name, x.step(0, way), place < 0 ? 0 : 1);
        due.is("text of " + name, Due.text(x, 0), told);
    }

    /** Promise 12, way 0 */
    private static void stepOutside() {
        stepOf("K", 0, NONE, "K");
        stepOf("K(I I)(I K)", 0, 0, "I I");
        stepOf("S(I I)(I K)", 0, 3, "S I (I K)");
        stepOf("\\x.I x", 0, 1, "\\a.a");
        stepOf("X (I K) (I S)", 0, 3, "X K (I S)");
        stepOf("K K (I K) (I S)", 0, 1, "K (I S)");
        LambdaShelf x = new LambdaShelf();
        Due.term(x, "I K");
        due.is("step(1, 0)", x.step(1, 0), BAD);
        due.is("step(-1, 0)", x.step(-1, 0), BAD);
        due.is("step(0, 4)", x.step(0, 4), BAD);
        due.is("step(0, -1)", x.step(0, -1), BAD);
        due.is("it stays", Due.text(x, 0), "I K");
    }

    private static void stepInside() {
        stepOf("K(I I)(I K)", 1, 3, "K I (I K)");
        stepOf("I(I(I K))", 1, 4, "I (I K)");
        stepOf("(\\x.I x) (I K)", 1, 2, "(\\a.a) (I K)");
        stepOf("I K (I S)", 1, 1, "K (I S)");
        stepOf("I (X F) (I (I S))", 1, 1, "X F (I (I S))");
        stepOf("K K", 1, NONE, "K K");
        stepOf("K K K K", 1, 1, "K K");
    }

    private static void stepHead() {
        stepOf("X (I K)", 2, NONE, "X (I K)");
        stepOf("\\x.I x", 2, NONE, "\\a.I a");
        stepOf("I K (I S)", 2, 1, "K (I S)");
        stepOf("S K K (I X) F", 2, 1, "K (I X) (K (I X)) F");
        stepOf("(\\x.x) K S S", 2, 2, "K S S");
        stepOf("S K (I K)", 2, NONE, "S K (I K)");
    }

    private static void stepShortening() {
        stepOf("\\x.K x", 3, 0, "K");
        stepOf("\\x.x x", 3, NONE, "\\a.a a");
        stepOf("\\x.K x x", 3, NONE, "\\a.K a a");
        stepOf("\\f x.f x", 3, 1, "\\a.a");
        stepOf("\\f x.f (K x)", 3, NONE, "\\a.\\b.a (K b)");
        stepOf("\\x.\\y.K y", 3, 1, "\\a.K");
        stepOf("\\x.(\\y.y) x", 3, 0, "\\a.a");
        stepOf("\\z.\\x.(\\y.y z) x", 3, 1, "\\a.\\b.b a");
        stepOf("\\x.\\y.\\z.x y (\\w.w x y) z", 3, 2, "\\a.\\b.a b (\\c.c a b)");
        stepOf("\\x.(\\y.x y) x", 3, 2, "\\a.a a");
        stepOf("\\x.(\\y.y x) x", 3, NONE, "\\a.(\\b.b a) a");
        stepOf("K (\\x.S x) (\\x.I x)", 3, 3, "K S (\\a.I a)");
        stepOf("I K", 3, NONE, "I K");
    }

    private static void substitution() {
        stepOf("\\y.(\\x.\\z.x) y", 0, 1, "\\a.\\b.a");
        stepOf("\\y.(\\x.\\z.x z y) (\\w.w y)", 0, 1, "\\a.\\b.(\\c.c a) b a");
        stepOf("\\a b.(\\x.\\c d.x a b c d) (a b (\\e.e a))", 0, 2,
                "\\a.\\b.\\c.\\d.a b (\\e.e a) a b c d");
        stepOf("(\\x.K) (\\y.y y)", 0, 0, "K");
        stepOf("(\\x.x x) (\\y.y y)", 0, 0, "(\\a.a a) (\\a.a a)");
        stepOf("\\z.(\\x.z) z", 0, 1, "\\a.a");
        stepOf("\\z y.(\\x.(\\w.w x z) y) (\\v.v y z)", 1, 4,
                "\\a.\\b.(\\c.b c a) (\\c.c b a)");
    }

    private static void letterRules() {
        stepOf("S K S X", 0, 0, "K X (S X)");
        stepOf("S(K F)(S X)(F F)", 0, 0, "K F (F F) (S X (F F))");
        stepOf("\\x y.S x y (x y)", 0, 2, "\\a.\\b.a (a b) (b (a b))");
        stepOf("\\x y.K x y", 0, 2, "\\a.\\b.a");
        stepOf("S K", 0, NONE, "S K");
        stepOf("S K K", 0, NONE, "S K K");
        stepOf("F X", 0, NONE, "F X");
        stepOf("X X X X", 0, NONE, "X X X X");
        stepOf("F(I X)", 0, 2, "F X");
    }

    /** Promise 12: FULL at 501, not at 500 */
    private static void fullSteps() {
        LambdaShelf x = new LambdaShelf();
        // (\x.x x K) u, u of SIZE s: 3 + 2 s behind it.
        Due.term(x, "\\x.K x x");
        Due.term(x, "\\y." + Due.many("S", 124));
        due.is("248", x.size(1), 248);
        x.apply(0, 1);
        due.is("3 + 496", x.step(2, 0), 1);
        due.is("its size", x.size(2), 499);
        Due.term(x, Due.many("S", 125));
        x.apply(0, 3);
        x.copy(4);
        due.is("3 + 498", x.step(4, 0), FULL);
        due.is("it stays", x.same(4, 5), 1);
        due.is("redex of FULL", x.redex(4, 0), 0);
        // S a b c grows by c less one.
        LambdaShelf y = new LambdaShelf();
        Due.term(y, "S K (" + Due.many("X", 124) + ")(\\y." + Due.many("X", 124) + ")");
        due.is("500 before", y.size(0), 4 + 1 + 247 + 248);
        due.is("FULL by S", y.step(0, 0), FULL);
        due.is("FULL by S, inside", y.step(0, 1), FULL);
        due.is("FULL by S, head", y.step(0, 2), FULL);
        Due.term(y, "S K K(" + Due.many("S", 124) + ")");
        due.is("S fits", y.step(1, 0), 1);
        due.is("its size", y.size(1), 3 + 2 + 2 * 247);
        Due.term(y, "S K (K K) (" + Due.many("S", 124) + ")");
        due.is("S to 501", y.step(2, 0), FULL);
        Due.term(y, "S K (\\x.x) (" + Due.many("S", 124) + ")");
        due.is("S to 500", y.step(3, 0), 1);
        due.is("500", y.size(3), 500);
    }

    /** Promises 13 and 14 */
    private static void stepsAndTold() {
        LambdaShelf x = new LambdaShelf();
        Due.term(x, "I(I(I K))");
        due.is("steps(0, 0, 2)", x.steps(0, 0, 2), 2);
        due.is("told(0)", x.told(0), 1);
        due.is("told(1)", x.told(1), 5);
        due.is("steps(0, 0, 1)", x.steps(0, 0, 1), 1);
        due.is("told(0), the last done", x.told(0), 1);
        due.is("told(1)", x.told(1), 1);
        due.is("steps(0, 0, 1)", x.steps(0, 0, 1), 0);
        due.is("told(0), none", x.told(0), 0);
        due.is("told(1), none", x.told(1), 0);
        due.is("steps(0, 0, 0)", x.steps(0, 0, 0), 0);
        due.is("told(0) of n 0", x.told(0), 1);
        due.is("told(2)", x.told(2), BAD);
        due.is("told(-1)", x.told(-1), BAD);
        Due.term(x, "(\\x.x x)(\\x.x x)");
        due.is("steps(1, 0, 200)", x.steps(1, 0, 200), 200);
        due.is("told(1)", x.told(1), 9);
        due.is("steps(1, 0, 201)", x.steps(1, 0, 201), BAD);
        due.is("steps(1, 0, -1)", x.steps(1, 0, -1), BAD);
        due.is("steps(1, 4, 1)", x.steps(1, 4, 1), BAD);
        due.is("steps(1, -1, 1)", x.steps(1, -1, 1), BAD);
        due.is("steps(2, 0, 1)", x.steps(2, 0, 1), BAD);
        due.is("told(0) behind BAD", x.told(0), 1);
        due.is("told(1) behind BAD", x.told(1), 9);
        Due.term(x, "(\\x.x x x)(\\x.x x x)");
        due.is("steps until FULL", x.steps(2, 0, 200), 69);
        due.is("told(0)", x.told(0), 2);
        due.is("told(1)", x.told(1), 13 + 7 * 69);
        due.is("size", x.size(2), x.told(1));
        x.step(0, 0);
        x.read(0, 9);
        due.is("told(0) is of steps() alone", x.told(0), 2);
        Due.term(x, "\\x y z.K x y z");
        due.is("steps by way 3", x.steps(3, 3, 200), 3);
        due.is("text", Due.text(x, 3), "K");
        Due.term(x, "K K (S X X (X X))");
        due.is("the greatest is not the last", x.steps(4, 1, 9), 2);
        due.is("told(1)", x.told(1), 15);
        due.is("size", x.size(4), 1);
    }

    /** Promise 15 */
    private static void redexPlaces() {
        LambdaShelf x = new LambdaShelf();
        Due.term(x, "X (I K) (\\x.I (K x) (I x))");
        due.is("code", Due.code(x, 0), "0 0 6 0 4 3 1 0 0 4 0 3 10 0 4 10");
        due.is("redex(0, 0)", x.redex(0, 0), 3);
        due.is("redex(0, 1)", x.redex(0, 1), 3);
        due.is("redex(0, 2)", x.redex(0, 2), NONE);
        due.is("redex(0, 3)", x.redex(0, 3), NONE);
        due.is("redex(0, 4)", x.redex(0, 4), BAD);
        due.is("redex(0, -1)", x.redex(0, -1), BAD);
        due.is("redex(1, 0)", x.redex(1, 0), BAD);
        due.is("it stays", x.size(0), 16);
    }

    /** Promise 16 */
    private static void redexCounts() {
        String[] texts = {"K", "I K", "I(I K)", "K(I I)(I I)", "\\x.(\\y.y) x", "S K K", "S K K (S K K I)",
            "\\x.K x", "I I I I"};
        int[] wants = {0, 1, 2, 3, 1, 0, 2, 0, 1};
        LambdaShelf x = new LambdaShelf();
        for (int i = 0; i < texts.length; i++) {
            Due.term(x, texts[i]);
            due.is("redexes of " + texts[i], x.redexes(i), wants[i]);
        }
        due.is("redexes(9)", x.redexes(9), BAD);
        due.is("redexes(-1)", x.redexes(-1), BAD);
    }

    private static void abstractedOf(String text, String told) {
        LambdaShelf x = new LambdaShelf();
        Due.term(x, text);
        String before = Due.code(x, 0);
        due.is("abstracted of " + text, x.abstracted(0), 1);
        due.is("text of " + text, Due.text(x, 1), told);
        due.is("it stays: " + text, Due.code(x, 0), before);
    }

    /** Promise 17 */
    private static void abstraction() {
        abstractedOf("S K", "S K");
        abstractedOf("\\x.x", "I");
        abstractedOf("\\x.K", "K K");
        abstractedOf("\\x.K x", "K");
        abstractedOf("\\x.x x", "S I I");
        abstractedOf("\\x y.x", "K");
        abstractedOf("\\x y.y", "K I");
        abstractedOf("\\x y.y x", "S (K (S I)) K");
        abstractedOf("\\x y z.x z (y z)", "S");
        abstractedOf("\\x.F (F x)", "S (K F) F");
        abstractedOf("\\x.K (\\y.x)", "S (K K) K");
        abstractedOf("(\\x.x) (\\x.x x) K", "I (S I I) K");
        abstractedOf("2", "S (S (K S) K) I");
        abstractedOf("\\x.S x x", "S S I");
        LambdaShelf x = new LambdaShelf();
        Due.term(x, "K");
        due.is("abstracted(1)", x.abstracted(1), BAD);
        due.is("abstracted(-1)", x.abstracted(-1), BAD);
    }

    private static void abstractionEdges() {
        LambdaShelf x = new LambdaShelf();
        // K t is two longer than t.
        Due.term(x, "\\x." + Due.many("S", 249));
        due.is("497 + 2", x.abstracted(0), 1);
        due.is("499", x.size(1), 499);
        Due.term(x, "\\x." + Due.many("S", 250));
        due.is("499 + 2", x.abstracted(2), FULL);
        due.is("no more TERMS", x.count(0), 3);
        // K (K t) has 499 here: with x behind it 501, which goes again by the LAMBDA around.
        LambdaShelf y = new LambdaShelf();
        Due.term(y, "\\x.(\\y z." + Due.many("X", 248) + ")x");
        due.is("500", y.size(0), 500);
        due.is("501 within, 499 behind", y.abstracted(0), 1);
        due.is("499", y.size(1), 499);
        due.is("it is K (K t)", y.code(1, 1) + " " + y.code(1, 3) + " " + y.code(1, 498), "3 3 6");
        // K (K (K t)) has 501 here.
        Due.term(y, "\\x y z." + Due.many("X", 248));
        due.is("501", y.abstracted(2), FULL);
        // Two LAMBDAS that fit, a whole that does not.
        LambdaShelf z = new LambdaShelf();
        Due.term(z, "\\x." + Due.many("S", 124));
        z.apply(0, 0);
        due.is("497", z.size(1), 497);
        due.is("(247 + 2) * 2 + 1", z.abstracted(1), 2);
        due.is("499", z.size(2), 499);
        Due.term(z, "\\x." + Due.many("S", 125));
        z.apply(0, 3);
        due.is("249 + 251 + 1", z.abstracted(4), FULL);
        // It grows by each LAMBDA around, far beyond 500 before the outermost.
        LambdaShelf w = new LambdaShelf();
        Due.term(w, "\\a b c d e f g h i j k l m n o p.p o n m l k j i h g f e d c b a");
        due.is("it grows", w.abstracted(0), FULL);
        due.is("nothing new", w.count(0), 1);
        Due.term(w, "\\x.(\\a b c d e f g h i j k l m n o p.p o n m l k j i h g f e d c b a) x");
        due.is("it grows within", w.abstracted(1), FULL);
    }

    private static void numberIs(String text, int number) {
        LambdaShelf x = new LambdaShelf();
        Due.term(x, text);
        due.is("number of " + text, x.number(0), number);
    }

    /** Promise 18 */
    private static void numbers() {
        for (int n = 0; n <= 20; n++) {
            numberIs("" + n, n);
        }
        numberIs("\\f.f", 1);
        numberIs("X", 0);
        numberIs("F X", 1);
        numberIs("F(F(F X))", 3);
        numberIs("F", NONE);
        numberIs("F F", NONE);
        numberIs("F X X", NONE);
        numberIs("F F X", NONE);
        numberIs("F(F(X X))", NONE);
        numberIs("\\f.X", NONE);
        numberIs("\\f x.X", NONE);
        numberIs("\\f x.f", NONE);
        numberIs("\\f x.f f", NONE);
        numberIs("\\f x.x x", NONE);
        numberIs("\\f x.x f", NONE);
        numberIs("\\f x.f (x x)", NONE);
        numberIs("\\f x.f x x", NONE);
        numberIs("\\f x y.y", NONE);
        numberIs("\\f x.F x", NONE);
        numberIs("\\f.f f", NONE);
        numberIs("\\f.F X", NONE);
        numberIs("I 3", NONE);
        LambdaShelf x = new LambdaShelf();
        Due.term(x, "3");
        due.is("number(1)", x.number(1), BAD);
        due.is("number(-1)", x.number(-1), BAD);
        Due.term(x, "(\\n.n F X) 20");
        x.steps(1, 0, 200);
        due.is("F twenty times", x.number(1), 20);
    }

    /** Promise 19 */
    private static void readNumbers() {
        LambdaShelf x = new LambdaShelf();
        Due.term(x, "\\m n f x.m f (n f x)");
        Due.term(x, "3");
        Due.term(x, "4");
        x.apply(0, 1);
        x.apply(3, 2);
        String before = Due.code(x, 4);
        due.is("3 + 4", x.read(4, 200), 7);
        due.is("it is not kept", x.count(0), 5);
        due.is("it stays", Due.code(x, 4), before);
        due.is("3", x.read(1, 2), 3);
        due.is("3, one step too few", x.read(1, 1), STATE);
        due.is("3, no step", x.read(1, 0), STATE);
        Due.term(x, "X");
        due.is("X F X", x.read(5, 200), NONE);
        due.is("X F X, no step", x.read(5, 0), NONE);
        Due.term(x, "K");
        due.is("K F X", x.read(6, 9), NONE);
        Due.term(x, "K I");
        due.is("K I F X: I X: X", x.read(7, 2), 0);
        due.is("K I F X: I X", x.read(7, 1), STATE);
        Due.term(x, "(\\x.x x)(\\x.x x)");
        due.is("without end", x.read(8, 200), STATE);
        Due.term(x, "(\\x.x x x)(\\x.x x x)");
        due.is("beyond 500", x.read(9, 200), FULL);
        due.is("not so far", x.read(9, 40), STATE);
        due.is("read(0, 201)", x.read(0, 201), BAD);
        due.is("read(0, -1)", x.read(0, -1), BAD);
        due.is("read(10, 1)", x.read(10, 1), BAD);
        due.is("read(-1, 1)", x.read(-1, 1), BAD);
        LambdaShelf y = new LambdaShelf();
        Due.term(y, "K(\\x.X) (" + Due.many("S", 245) + ")");
        due.is("size 494 + 4", y.size(0), 494);
        due.is("498", y.read(0, 200), NONE);
        Due.term(y, "K(\\x y.X) (" + Due.many("S", 245) + ")");
        due.is("499", y.read(1, 200), 0);
        Due.term(y, "K(\\x y.X) (\\z." + Due.many("S", 245) + ")");
        due.is("size 496", y.size(2), 496);
        due.is("500", y.read(2, 200), 0);
        Due.term(y, "K(\\x y.X) (\\w z." + Due.many("S", 245) + ")");
        due.is("501", y.read(3, 200), FULL);
        for (int i = y.count(0); i < 32; i++) {
            y.copy(0);
        }
        due.is("with 32 TERMS", y.read(1, 200), 0);
    }

    private static void typeOf(String text, String type) {
        LambdaShelf x = new LambdaShelf();
        Due.term(x, text);
        due.is("typed of " + text, x.typed(0), type.isEmpty() ? NONE : type.split(" ").length);
        due.is("type of " + text, Due.type(x), type);
    }

    /** Promises 20 and 21 */
    private static void types() {
        typeOf("S", "0 0 1 0 2 3 0 0 1 2 0 1 3");
        typeOf("K", "0 1 0 2 1");
        typeOf("I", "0 1 1");
        typeOf("F", "0 1 1");
        typeOf("X", "1");
        typeOf("F X", "1");
        typeOf("K I", "0 1 0 2 2");
        typeOf("S K K", "0 1 1");
        typeOf("S I I", "");
        typeOf("I I", "0 1 1");
        typeOf("F F", "");
        typeOf("X F", "");
        typeOf("F(X X)", "");
        typeOf("\\x.x x", "");
        typeOf("K I (\\x.x x)", "");
        typeOf("K (\\x.x x) I", "");
        typeOf("\\x.x", "0 1 1");
        typeOf("\\x y.x", "0 1 0 2 1");
        typeOf("\\x.X", "0 1 2");
        typeOf("\\x.F x", "0 1 1");
        typeOf("\\f x.f(f x)", "0 0 1 1 0 1 1");
        typeOf("0", "0 1 0 2 2");
        typeOf("1", "0 0 1 2 0 1 2");
        typeOf("3", "0 0 1 1 0 1 1");
        typeOf("\\x y z.x z (y z)", "0 0 1 0 2 3 0 0 1 2 0 1 3");
        typeOf("\\f.K(f X)(f F)", "");
        typeOf("\\f.K(f X)(F X)", "0 0 1 2 2");
        typeOf("\\x.K x F", "0 1 1");
        typeOf("K F X", "0 1 1");
        typeOf("(\\i.i i) (\\x.x)", "");
        typeOf("(\\x.x) (\\x.x)", "0 1 1");
        typeOf("\\y.(\\x.\\z.x) y", "0 1 0 2 1");
        typeOf("X X", "");
        typeOf("\\x.x F X", "0 0 0 1 1 0 1 2 2");
        LambdaShelf x = new LambdaShelf();
        Due.term(x, "K");
        Due.term(x, "S I I");
        due.is("typed(0)", x.typed(0), 5);
        due.is("typed(1)", x.typed(1), NONE);
        due.is("typed(2)", x.typed(2), BAD);
        due.is("typed(-1)", x.typed(-1), BAD);
        due.is("the latest that was a length", Due.type(x), "0 1 0 2 1");
        due.is("type(-1)", x.type(-1), BAD);
        due.is("type(5)", x.type(5), BAD);
        due.is("type(most)", x.type(Integer.MAX_VALUE), BAD);
        x.drop();
        x.drop();
        due.is("of a TERM that went", Due.type(x), "0 1 0 2 1");
    }

    private static void typeLimits() {
        // A pair of one and the same, pair upon pair: each time twice as long.
        LambdaShelf x = new LambdaShelf();
        String pair = "(\\x p.p x x)";
        Due.term(x, pair);
        due.is("a pair", x.typed(0), 9);
        Due.term(x, "\\z." + Due.many(pair + "(", 5) + "z" + Due.many(")", 5));
        // t(0) = 1, t(n) = 2 t(n - 1) + 5, and an ARROW from z: 1 + 1 + t(5).
        due.is("five pairs", x.typed(1), 2 + 187);
        Due.term(x, "\\z." + Due.many(pair + "(", 6) + "z" + Due.many(")", 6));
        due.is("six pairs", x.typed(2), 2 + 379);
        Due.term(x, "\\z." + Due.many(pair + "(", 7) + "z" + Due.many(")", 7));
        due.is("seven pairs", x.typed(3), FULL);
        Due.term(x, "\\z." + Due.many(pair + "(", 30) + "z" + Due.many(")", 30));
        due.is("thirty pairs", x.typed(4), FULL);
        due.is("the latest stays", x.type(380) > 0 ? 1 : 0, 1);
        due.is("its end", x.type(381), BAD);
        // Each K around makes it two longer.
        Due.term(x, "\\x." + Due.many("K(", 29) + "x" + Due.many(")", 29));
        Due.term(x, "\\x." + Due.many("K(", 30) + "x" + Due.many(")", 30));
        x.apply(5, 2);
        x.apply(6, 7);
        x.apply(6, 2);
        x.apply(6, 9);
        due.is("381 + 58 + 60", x.typed(8), 499);
        due.is("381 + 60 + 60", x.typed(10), FULL);
        due.is("the last of 499", x.type(498) > 0 ? 1 : 0, 1);
        due.is("behind it", x.type(499), BAD);
        LambdaShelf y = new LambdaShelf();
        Due.term(y, Due.many("S", 250));
        due.is("250 S", y.typed(0), NONE);
        Due.term(y, Due.many("K", 250));
        due.is("250 K, which is K K", y.typed(1), 7);
        // \x.K K .. of n LAMBDAS: ARROWS from n others to the last one's TYPE.
        Due.term(y, Due.many("\\x.", 40) + "X");
        due.is("40 LAMBDAS", y.typed(2), 81);
        due.is("the last", y.type(80), 41);
    }

    private static void aboutIs(String text, int depth, int lambda, int variables, int letters, int normal) {
        LambdaShelf x = new LambdaShelf();
        Due.term(x, text);
        due.is("about(0, 0) of " + text, x.about(0, 0), depth);
        due.is("about(0, 1) of " + text, x.about(0, 1), lambda);
        due.is("about(0, 2) of " + text, x.about(0, 2), variables);
        due.is("about(0, 3) of " + text, x.about(0, 3), letters);
        due.is("about(0, 4) of " + text, x.about(0, 4), normal);
    }

    /** Promise 22 */
    private static void abouts() {
        aboutIs("K", 0, 0, 0, 1, 1);
        aboutIs("I K X", 0, 0, 0, 1, 0);
        aboutIs("\\x.x", 1, 1, 1, 0, 1);
        aboutIs("\\x.K", 1, 1, 0, 1, 1);
        aboutIs("\\x.K x", 1, 1, 1, 1, 1);
        aboutIs("(\\x.x x)(\\x y.x)", 2, 1, 1, 0, 0);
        aboutIs("\\x.(\\y.y)(\\z.\\w.z)", 3, 1, 1, 0, 0);
        aboutIs("X X", 0, 0, 0, 1, 1);
        LambdaShelf x = new LambdaShelf();
        Due.term(x, "K");
        due.is("about(0, 5)", x.about(0, 5), BAD);
        due.is("about(0, -1)", x.about(0, -1), BAD);
        due.is("about(1, 0)", x.about(1, 0), BAD);
        due.is("about(-1, 0)", x.about(-1, 0), BAD);
    }

    /** Promises 23 and 24 */
    private static void dropAndCount() {
        LambdaShelf x = new LambdaShelf();
        Due.term(x, "K I");
        Due.term(x, "\\x.x");
        due.is("count(0)", x.count(0), 2);
        due.is("count(2)", x.count(2), 5);
        Due.feed(x, "K");
        due.is("count(1)", x.count(1), 20);
        due.is("drop()", x.drop(), 1);
        due.is("count(0)", x.count(0), 1);
        due.is("count(2)", x.count(2), 3);
        due.is("size(1)", x.size(1), BAD);
        due.is("drop()", x.drop(), 0);
        due.is("drop()", x.drop(), NONE);
        due.is("count(0)", x.count(0), 0);
        due.is("count(1) stays", x.count(1), 20);
        due.is("count(3)", x.count(3), BAD);
        due.is("count(-1)", x.count(-1), BAD);
        due.is("term() again", x.term(), 0);
        due.is("its text", Due.text(x, 0), "K");
    }

    private static void shelfFull() {
        LambdaShelf x = new LambdaShelf();
        for (int i = 0; i < 32; i++) {
            due.is("term " + i, Due.term(x, "\\x." + i % 20), i);
        }
        Due.feed(x, "y");
        due.is("term 32", x.term(), FULL);
        due.is("THE TAPE stays", x.count(1), 20);
        due.is("fault() of FULL", x.fault(), 0);
        due.is("copy", x.copy(0), FULL);
        due.is("apply", x.apply(0, 0), FULL);
        due.is("abstracted", x.abstracted(0), FULL);
        due.is("copy, BAD first", x.copy(32), BAD);
        due.is("apply, BAD first", x.apply(0, 32), BAD);
        due.is("abstracted, BAD first", x.abstracted(32), BAD);
        due.is("count(0)", x.count(0), 32);
        due.is("drop()", x.drop(), 31);
        due.is("term() with room", x.term(), -10);
        due.is("fault()", x.fault(), 3);
        due.is("copy(5)", x.copy(5), 31);
        due.is("same(5, 31)", x.same(5, 31), 1);
        due.is("drop()", x.drop(), 31);
        Due.feed(x, "z");
        x.copy(0);
        due.is("term() FULL", x.term(), FULL);
        due.is("the latest FAULT stays", x.fault(), 3);
    }
}
