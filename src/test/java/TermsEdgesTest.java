/** "Terms", sentence by sentence, at its boundaries: just within, at them and just beyond. */
public final class TermsEdgesTest {
    private static final int BAD = -1, STATE = -2, FULL = -3, NONE = -4;
    private static final Due due = new Due("TermsEdgesTest");

    public static void main(String[] args) {
        calls512();
        answersInOrder();
        codesOfNodes();
        variablesByDepth();
        deepVariables();
        termsAtMost();
        everyByte();
        bytesBetween();
        namesAtMost();
        namesAsLongAsMayBe();
        numbersOfFigures();
        numbersTooLong();
        lettersOneByOne();
        tokensThatCanStand();
        rowsOfParts();
        lambdasAsFarAsMayBe();
        innermostName();
        namesNotBound();
        faultAtTheEnd();
        firstFaultMet();
        tokenReadBehindTheOneBefore();
        openAtMost();
        openToTheirEnds();
        sizeFault();
        sizeFaultBehindOthers();
        justSoManyBehind();
        whatRedexesBecome();
        variablesBoundAsBefore();
        firstInTheCode();
        noneWithin();
        head();
        shortening();
        fullByLambda();
        fullByS();
        fullByTheWhole();
        abstractedCases();
        typesOfLetters();
        typesOfTheWhole();
        typesThatAreNone();
        due.finish();
    }

    private static String many(String part, int n) {
        return Due.many(part, n);
    }

    private static void reads(String text, String code) {
        Scene tape = new Scene().tape(text);
        Scene read = tape.then(LambdaShelf::term);
        due.is("term of '" + text + "'", tape.answer(LambdaShelf::term), 0);
        due.is("fault of '" + text + "'", read.answer(LambdaShelf::fault), 0);
        due.is("code of '" + text + "'", read.code(0), code);
    }

    private static void fails(String text, int fault, int place) {
        Scene tape = new Scene().tape(text);
        Scene read = tape.then(LambdaShelf::term);
        due.is("term of '" + text + "'", tape.answer(LambdaShelf::term), -10 - place);
        due.is("fault of '" + text + "'", read.answer(LambdaShelf::fault), fault);
        due.is("terms behind '" + text + "'", read.answer(x -> x.count(0)), 0);
        due.is("tape behind '" + text + "'", read.answer(x -> x.count(1)), 0);
    }

    private static void steps(String text, int way, int place, String told) {
        Scene term = new Scene().term(text);
        String name = text + " by way " + way;
        due.is("redex of " + name, term.answer(x -> x.redex(0, way)), place);
        due.is("step of " + name, term.answer(x -> x.step(0, way)), place < 0 ? 0 : 1);
        due.is("text behind " + name, term.then(x -> x.step(0, way)).text(0), told);
    }

    // ---- What it is

    /** "An object is used for at most 512 calls after it has been made" */
    private static void calls512() {
        LambdaShelf x = new LambdaShelf();
        // (\x.x x)(\x.x x)
        due.is("call 1", x.feed(0x285C782E, 0x78207829, 0x285C782E, 0x78207829, 0x20202020), 20);
        due.is("call 2", x.term(), 0);
        for (int call = 3; call <= 507; call += 5) {
            due.is("call " + call, x.steps(0, 0, 200), 200);
            due.is("call " + (call + 1), x.read(0, 200), STATE);
            due.is("call " + (call + 2), x.typed(0), NONE);
            due.is("call " + (call + 3), x.abstracted(0), 1);
            due.is("call " + (call + 4), x.drop(), 1);
        }
        due.is("call 508", x.feed(0x4B202020, 0x20202020, 0x20202020, 0x20202020, 0x20202020), 20);
        due.is("call 509", x.term(), 1);
        due.is("call 510", x.typed(1), 5);
        due.is("call 511", x.type(4), 1);
        due.is("call 512", x.letter(1, 0), 'K');
    }

    /** "BAD -1 .., STATE -2 .., FULL -3, NONE -4 .., the first that fits" */
    private static void answersInOrder() {
        due.is("BAD", LambdaShelf.BAD, -1);
        due.is("STATE", LambdaShelf.STATE, -2);
        due.is("FULL", LambdaShelf.FULL, -3);
        due.is("NONE", LambdaShelf.NONE, -4);
        Scene full = new Scene().term("(\\x.x x x)(\\x.x x x)").copies(0, 32);
        due.is("copy: BAD before FULL", full.answer(x -> x.copy(32)), BAD);
        due.is("copy: FULL", full.answer(x -> x.copy(31)), FULL);
        due.is("apply: BAD before FULL, first", full.answer(x -> x.apply(32, 0)), BAD);
        due.is("apply: BAD before FULL, second", full.answer(x -> x.apply(0, 32)), BAD);
        due.is("apply: FULL", full.answer(x -> x.apply(0, 0)), FULL);
        due.is("abstracted: BAD before FULL", full.answer(x -> x.abstracted(-1)), BAD);
        due.is("abstracted: FULL", full.answer(x -> x.abstracted(0)), FULL);
        Scene turned = full.then(x -> x.steps(0, 0, 200));
        due.is("step: BAD before FULL", turned.answer(x -> x.step(0, 4)), BAD);
        due.is("step: FULL", turned.answer(x -> x.step(0, 0)), FULL);
        due.is("read: BAD before FULL", turned.answer(x -> x.read(0, 201)), BAD);
        due.is("redex: BAD before NONE", full.answer(x -> x.redex(0, 4)), BAD);
        due.is("redex: NONE", full.answer(x -> x.redex(0, 3)), NONE);
        // With F and X behind it 17 NODES, and 7 more by each STEP: 500 behind 69.
        due.is("read: STATE before FULL", full.answer(x -> x.read(0, 69)), STATE);
        due.is("read: FULL", full.answer(x -> x.read(0, 70)), FULL);
    }

    // ---- 1: TERMS and their CODE

    /** "Its CODE: APPLY 0, then both; LAMBDA 1, then its TERM; S 2, K 3, I 4, F 5, X 6" */
    private static void codesOfNodes() {
        reads("S", "2");
        reads("K", "3");
        reads("I", "4");
        reads("F", "5");
        reads("X", "6");
        reads("\\x.S", "1 2");
        reads("K X", "0 3 6");
        reads("\\x.x", "1 10");
    }

    /** "a VARIABLE k (0, 1, ..: bound by the LAMBDA k + 1 around it, from within)", "10 + k" */
    private static void variablesByDepth() {
        StringBuilder lambdas = new StringBuilder();
        for (int i = 0; i < 40; i++) {
            lambdas.append('\\').append(Model.nameOf(i)).append('.');
        }
        for (int k = 0; k < 40; k++) {
            reads(lambdas + Model.nameOf(39 - k), many("1 ", 40) + (10 + k));
        }
    }

    /** A text opens 40 at most; by STEPS a VARIABLE comes deeper, as far as the SIZE lets it. */
    private static void deepVariables() {
        // Each of the first two brings LAMBDAS in under the \z of a TERM \z.t.
        Scene deep = new Scene().terms("\\n z.(\\f." + many("\\x.", 36) + "f)(n z)",
                "\\n z.(\\f." + many("\\x.", 21) + "f)(n z)", "\\z.z");
        for (int i = 0; i < 13; i++) {
            int latest = 2 + i;
            deep = deep.then(x -> x.apply(0, latest), x -> x.steps(latest + 1, 0, 200));
        }
        Scene before = deep;
        due.is("an APPLY of 500", before.answer(x -> x.apply(1, 15)), 16);
        Scene deepest = before.then(x -> x.apply(1, 15), x -> x.steps(16, 0, 200));
        due.is("its STEPS", deepest.answer(x -> x.told(0)), 0);
        due.is("its greatest SIZE", deepest.answer(x -> x.told(1)), 497);
        due.is("490 LAMBDAS", deepest.answer(x -> x.about(16, 0)), 490);
        due.is("their SIZE", deepest.answer(x -> x.size(16)), 491);
        due.is("VARIABLE 489", deepest.answer(x -> x.code(16, 490)), 499);
        due.is("it is NORMAL", deepest.answer(x -> x.about(16, 4)), 1);
        due.is("its text", deepest.text(16).endsWith("\\rt.\\ru.\\rv.a") ? 1 : 0, 1);
        due.is("its TYPE", deepest.answer(x -> x.typed(16)), FULL);
        due.is("it ABSTRACTED", deepest.answer(x -> x.abstracted(16)), FULL);
        due.is("its number", deepest.answer(x -> x.number(16)), NONE);
    }

    /** "TERMS are numbered from 0 on, as they come, 32 at most." */
    private static void termsAtMost() {
        Scene some = new Scene();
        for (int t = 0; t < 32; t++) {
            due.is("number " + t, some.tape("K").answer(LambdaShelf::term), t);
            due.is("before it comes: size " + t, some.answer(x -> x.size(31)), BAD);
            some = some.term("K");
        }
        Scene all = some;
        due.is("the first", all.answer(x -> x.size(0)), 1);
        due.is("the last", all.answer(x -> x.size(31)), 1);
        due.is("none behind it", all.answer(x -> x.size(32)), BAD);
        due.is("none before the first", all.answer(x -> x.size(-1)), BAD);
        due.is("the 33rd by term", all.tape("K").answer(LambdaShelf::term), FULL);
        due.is("the 33rd by copy", all.answer(x -> x.copy(0)), FULL);
        due.is("the 33rd by apply", all.answer(x -> x.apply(0, 0)), FULL);
        due.is("the 33rd by abstracted", all.answer(x -> x.abstracted(0)), FULL);
        Scene one = all.then(LambdaShelf::drop);
        due.is("the 32nd by term", one.tape("K").answer(LambdaShelf::term), 31);
        due.is("the 32nd by copy", one.answer(x -> x.copy(0)), 31);
        due.is("the 32nd by apply", one.answer(x -> x.apply(0, 0)), 31);
        due.is("the 32nd by abstracted", one.answer(x -> x.abstracted(0)), 31);
    }

    // ---- THE TAPE and its TOKENS

    /** "NAMES (a .. z ..), NUMBERS (.. figures ..), LETTERS (S K I F X, one), SIGNS ( ) \ and the point" */
    private static void everyByte() {
        for (int b = 0; b < 256; b++) {
            char c = (char) b;
            String alone = String.valueOf(c);
            String behind = "K" + c;
            if (c >= '0' && c <= '9') {
                reads(alone, "1 1 " + many("0 11 ", c - '0') + "10");
                reads(behind, "0 3 1 1 " + many("0 11 ", c - '0') + "10");
            } else if ("SKIFX".indexOf(c) >= 0) {
                reads(alone, String.valueOf(2 + "SKIFX".indexOf(c)));
                reads(behind, "0 3 " + (2 + "SKIFX".indexOf(c)));
            } else if (c == ' ') {
                fails(alone, 2, 1);
                reads(behind, "3");
            } else {
                boolean isName = c >= 'a' && c <= 'z';
                boolean opens = c == '(' || c == '\\';
                boolean closes = c == ')' || c == '.';
                int fault = isName ? 3 : opens || closes ? 2 : 1;
                fails(alone, fault, opens ? 1 : 0);
                fails(behind, fault, opens ? 2 : 1);
            }
        }
    }

    /** "blanks (32) between" */
    private static void bytesBetween() {
        reads("KK", "0 3 3");
        reads("K K", "0 3 3");
        reads("   K   K   ", "0 3 3");
        fails("K" + (char) 31 + "K", 1, 1);
        fails("K" + (char) 33 + "K", 1, 1);
        fails("K\tK", 1, 1);
        fails("K\nK", 1, 1);
        fails("K" + (char) 0 + "K", 1, 1);
        fails("K" + (char) 160 + "K", 1, 1);
        fails("  $", 1, 2);
        reads(many(" ", 599) + "K", "3");
        reads("K" + many(" ", 599), "3");
        reads(" \\ x . x ", "1 10");
    }

    /** "NAMES (a .. z, 8 at most)", "one that is too long .. (its first byte)" */
    private static void namesAtMost() {
        for (int length = 1; length <= 8; length++) {
            String name = "abcdefgz".substring(8 - length);
            reads("\\" + name + "." + name, "1 10");
        }
        for (int length = 9; length <= 17; length++) {
            String name = many("z", length);
            fails("\\ " + name + ".K", 1, 2);
            fails("\\x. " + name, 1, 4);
            fails("\\x y" + name, 1, 3);
        }
        fails("\\x." + many("x", 597), 1, 3);
    }

    /** "each as long as may be" of NAMES: two are one NAME just if every byte is. */
    private static void namesAsLongAsMayBe() {
        reads("\\ab.ab", "1 10");
        fails("\\ab.a b", 3, 4);
        fails("\\ab.a", 3, 4);
        fails("\\ab.abc", 3, 4);
        reads("\\abcdefgh abcdefgi.abcdefgh", "1 1 11");
        reads("\\abcdefgh abcdefgi.abcdefgi", "1 1 10");
        reads("\\abcdefgh bbcdefgh.abcdefgh", "1 1 11");
        reads("\\abcdefgh abcdefg.abcdefgh", "1 1 11");
        reads("\\abcdefg abcdefgh.abcdefg", "1 1 11");
        reads("\\a aa.a", "1 1 11");
        reads("\\a aa.aa", "1 1 10");
        reads("\\x.xKx", "1 0 0 10 3 10");
        reads("\\x.x1x", "1 0 0 10 1 1 0 11 10 10");
    }

    private static String numeral(int n) {
        return "1 1 " + many("0 11 ", n) + "10";
    }

    /** "NUMBERS (1 or 2 figures, 0 to 20)", "a NUMBER above 20", "n times f" */
    private static void numbersOfFigures() {
        for (int n = 0; n <= 99; n++) {
            String two = "" + n / 10 + n % 10;
            if (n <= 20) {
                reads("" + n, numeral(n));
                reads(two, numeral(n));
            } else {
                fails(two, 1, 0);
                fails("K " + two, 1, 2);
            }
        }
    }

    /** "each as long as may be" and "one that is too long" of NUMBERS */
    private static void numbersTooLong() {
        reads("1 0", "0 " + numeral(1) + " " + numeral(0));
        reads("2 1", "0 " + numeral(2) + " " + numeral(1));
        fails("21", 1, 0);
        fails("000", 1, 0);
        fails("001", 1, 0);
        fails("020", 1, 0);
        fails("100", 1, 0);
        fails("200", 1, 0);
        fails("K12345678901234567890", 1, 1);
        fails("K 4294967297", 1, 2);
        fails(many("0", 600), 1, 0);
    }

    /** "LETTERS (S K I F X, one)" */
    private static void lettersOneByOne() {
        reads("SK", "0 2 3");
        reads("SKIFX", "0 0 0 0 2 3 4 5 6");
        fails("s", 3, 0);
        fails("Sk", 3, 1);
        fails("SKA", 1, 2);
    }

    // ---- how TOKENS stand

    private static final String[] TOKENS = {"x", "1", "K", "(", ")", "\\", ".", ""};

    /** Of TOKENS, "" being the end, just these can stand behind a front part. */
    private static void stands(String front, String... which) {
        for (String token : TOKENS) {
            boolean can = java.util.Arrays.asList(which).contains(token);
            String text = front + token;
            Scene tape = new Scene().tape(text);
            int answer = tape.answer(LambdaShelf::term);
            int fault = tape.then(LambdaShelf::term).answer(LambdaShelf::fault);
            boolean isFaultThere = fault == 2 && answer == -10 - front.length();
            boolean isReadOn = answer == 0 || fault == 2 && answer == -10 - text.length();
            String name = "'" + token + "' behind '" + front + "'";
            due.is(name, can ? isReadOn ? "can stand" : "fails" : isFaultThere ? "can not stand" : "reads on",
                    can ? "can stand" : "can not stand");
        }
    }

    /** "term: part { part }   part: NAME | NUMBER | LETTER | ( term ) | \ NAME { NAME } . term" */
    private static void tokensThatCanStand() {
        stands("\\x.", "x", "1", "K", "(", "\\");
        stands("\\x.(", "x", "1", "K", "(", "\\");
        stands("\\x.K \\y.", "x", "1", "K", "(", "\\");
        stands("(\\x.", "x", "1", "K", "(", "\\");
        stands("\\x.x ", "x", "1", "K", "(", "\\", "");
        stands("\\x.1 ", "x", "1", "K", "(", "\\", "");
        stands("\\x.K", "x", "1", "K", "(", "\\", "");
        stands("\\x.(K)", "x", "1", "K", "(", "\\", "");
        stands("\\x.(K", "x", "1", "K", "(", "\\", ")");
        stands("\\x.((K)", "x", "1", "K", "(", "\\", ")");
        stands("(\\x.K", "x", "1", "K", "(", "\\", ")");
        stands("\\", "x");
        stands("(\\", "x");
        stands("\\x ", "x", ".");
        stands("\\x y ", "x", ".");
        stands("(\\x ", "x", ".");
        fails("", 2, 0);
        fails(")", 2, 0);
        fails(".", 2, 0);
        fails("x", 3, 0);
    }

    /** "A row of parts is APPLY from the left ((a b) c)" */
    private static void rowsOfParts() {
        reads("K", "3");
        reads("K S", "0 3 2");
        reads("K S I", "0 0 3 2 4");
        reads("K S I F", "0 0 0 3 2 4 5");
        reads("K (S I)", "0 3 0 2 4");
        reads("(K S) I", "0 0 3 2 4");
        reads("(K) (S (I))", "0 3 0 2 4");
        reads("K (S I) F", "0 0 3 0 2 4 5");
    }

    /** "\ x y . t is a LAMBDA of x of a LAMBDA of y of t, as far as may be" */
    private static void lambdasAsFarAsMayBe() {
        reads("\\x.x", "1 10");
        reads("\\x y.x y", "1 1 0 11 10");
        reads("\\x.\\y.x y", "1 1 0 11 10");
        reads("\\x.K x", "1 0 3 10");
        reads("(\\x.K) K", "0 1 3 3");
        reads("K \\x.x K", "0 3 1 0 10 3");
        reads("K (\\x.x) K", "0 0 3 1 10 3");
        reads("K (\\x.x K) S", "0 0 3 1 0 10 3 2");
    }

    /** "a NAME is the innermost one of it that is bound around" */
    private static void innermostName() {
        reads("\\x x.x", "1 1 10");
        reads("\\x y x.x y", "1 1 1 0 10 11");
        reads("\\x.(\\x.x) x", "1 0 1 10 10");
        reads("\\x.x \\x.x", "1 0 10 1 10");
        reads("\\x y.x (\\y.x y) y", "1 1 0 0 11 1 0 12 10 10");
        reads("\\f x.f 1 x", "1 1 0 0 11 1 1 0 11 10 10");
    }

    // ---- FAULTS

    /** "3 a NAME that is not bound." */
    private static void namesNotBound() {
        fails("x", 3, 0);
        fails("  x", 3, 2);
        fails("(\\x.x) x", 3, 7);
        fails("(\\x.x x)(x)", 3, 9);
        fails("(\\x.(\\y.y) y)", 3, 11);
        reads("(\\x.(\\y.y) x)", "1 0 1 10 10");
        fails("\\x.f", 3, 3);
        fails("2 f", 3, 2);
    }

    /** "2 a TOKEN that can not stand there (or the end: the length)" */
    private static void faultAtTheEnd() {
        fails("", 2, 0);
        fails(" ", 2, 1);
        fails(many(" ", 600), 2, 600);
        fails("(K", 2, 2);
        fails("(K   ", 2, 5);
        fails("\\", 2, 1);
        fails("\\x", 2, 2);
        fails("\\x.", 2, 3);
        fails("(" + many("X", 250), 2, 251);
        fails("(" + many(" ", 598) + "K", 2, 600);
    }

    /** "the first met as it is read": of two FAULTS the one that stands before the other. */
    private static void firstFaultMet() {
        String[] faults = {"$", ")", "q", many("(", 41)};
        int[] kinds = {1, 2, 3, 4};
        int[] places = {0, 0, 0, 40};
        for (int i = 0; i < faults.length; i++) {
            for (int j = 0; j < faults.length; j++) {
                fails("K " + faults[i] + " K " + faults[j], kinds[i], 2 + places[i]);
            }
        }
    }

    /** "(a TOKEN is read when the one before has been taken)" */
    private static void tokenReadBehindTheOneBefore() {
        fails("q$", 3, 0);
        fails("K)$", 2, 1);
        fails(").", 2, 0);
        fails("q 21", 3, 0);
        fails(many("(", 41) + "$", 4, 40);
        fails(many("(", 40) + "$", 1, 40);
        fails("\\" + many("x ", 41) + "$", 4, 81);
        fails("\\" + many("x ", 40) + "$", 1, 81);
        fails("\\$", 1, 1);
        fails("\\ 21", 1, 2);
        fails("\\ 20", 2, 2);
        fails("\\x 21", 1, 3);
        fails("\\x 20", 2, 3);
        fails("\\x.q$", 3, 3);
    }

    /** "4 the 41st ( or NAME behind \ that would be open" */
    private static void openAtMost() {
        for (int open = 39; open <= 40; open++) {
            reads(many("(", open) + "K" + many(")", open), "3");
            reads(many("\\x.", open) + "x", many("1 ", open) + "10");
            reads("\\" + many("x ", open) + ".x", many("1 ", open) + "10");
        }
        fails(many("(", 41) + "K" + many(")", 41), 4, 40);
        fails(many("\\x.", 41) + "x", 4, 121);
        fails("\\" + many("x ", 41) + ".x", 4, 81);
        // Both together.
        reads(many("(\\x.", 20) + "x" + many(")", 20), many("1 ", 20) + "10");
        fails(many("(\\x.", 20) + "(x", 4, 80);
        fails(many("(\\x.", 20) + "\\y", 4, 81);
        fails(many("(", 39) + "\\x y", 4, 42);
        fails(many("(", 39) + "\\x.(", 4, 42);
        // What can not stand there is a FAULT before it would be open.
        fails("\\" + many("x ", 40) + "(", 2, 81);
        fails("\\" + many("x ", 40) + "\\", 2, 81);
        fails(many("(", 40) + "\\(", 2, 41);
        // A \ alone opens nothing, and a NAME that is no new one neither.
        fails(many("(", 40) + "\\", 2, 41);
        fails(many("(", 40) + "q", 3, 40);
        reads(many("\\x.", 40) + "x x", many("1 ", 40) + "0 10 10");
        reads(many("\\x.", 40) + "1", many("1 ", 40) + numeral(1));
    }

    /** "to the ends of what they are around" */
    private static void openToTheirEnds() {
        reads(many("(K)", 60), many("0 ", 59) + "3" + many(" 3", 59));
        reads("K" + many("(\\x.K)", 60), many("0 ", 60) + "3" + many(" 1 3", 60));
        String open = many("\\x.", 38);
        reads(open + "(\\y.y)(\\y.y)", many("1 ", 38) + "0 1 10 1 10");
        fails(open + "(\\y.y)(\\y.(y", 4, 38 * 3 + 10);
        fails(open + "(\\y z.y)", 4, 38 * 3 + 4);
        // A NAME stays open behind a ) that closes within what it is around.
        reads(open + "\\y.(y)(y)", many("1 ", 39) + "0 10 10");
        fails(open + "\\y.(y)\\z w", 4, 38 * 3 + 9);
        fails(open + "\\y z.(", 4, 38 * 3 + 5);
        // A ) closes the NAMES within it too.
        reads(open + "(\\y.y)\\z w.w", many("1 ", 38) + "0 1 10 1 1 10");
        fails(open + "(\\y.y)\\z w v", 4, 38 * 3 + 11);
    }

    /** "5 .. at 0: a SIZE above 500." */
    private static void sizeFault() {
        for (int size = 498; size <= 500; size++) {
            Scene term = new Scene().term(Due.sized(size));
            due.is("a SIZE of " + size, term.answer(x -> x.size(0)), size);
            due.is("its FAULT", term.answer(LambdaShelf::fault), 0);
        }
        fails(many("X", 251), 5, 0);
        fails("\\x." + many("X", 251), 5, 0);
        fails("\\x y." + many("X", 250), 5, 0);
        fails("   " + many("X", 251), 5, 0);
        fails(many("X", 600), 5, 0);
        // A 20 has 43 NODES: with 11 of them in a row 483, 12 of them 527.
        String twenties = many("20 ", 11);
        due.is("11 of 20", new Scene().term(twenties).answer(x -> x.size(0)), 483);
        due.is("with 499", new Scene().term(twenties + many("X", 8)).answer(x -> x.size(0)), 499);
        due.is("with 500", new Scene().term("\\x." + twenties + many("X", 8)).answer(x -> x.size(0)), 500);
        fails(twenties + many("X", 9), 5, 0);
        fails("\\x y." + twenties + many("X", 8), 5, 0);
        fails(twenties + "20", 5, 0);
        fails(many("20 ", 200), 5, 0);
    }

    /** "5 behind all others" */
    private static void sizeFaultBehindOthers() {
        String large = many("X", 300);
        fails(large, 5, 0);
        fails(large + "$", 1, 300);
        fails(large + "21", 1, 300);
        fails(large + ")", 2, 300);
        fails("(" + large, 2, 301);
        fails(large + "q", 3, 300);
        fails(large + many("(", 41), 4, 340);
    }

    // ---- 2: REDEXES and STEPS

    private static void redexes(String text, int place, int count) {
        Scene term = new Scene().term(text);
        due.is("redex of " + text, term.answer(x -> x.redex(0, 0)), place);
        due.is("redexes of " + text, term.answer(x -> x.redexes(0)), count);
        due.is("NORMAL: " + text, term.answer(x -> x.about(0, 4)), count == 0 ? 1 : 0);
    }

    /** "(APPLY NODES with just so many behind one another, the REDEX being the outer one.)" */
    private static void justSoManyBehind() {
        redexes("I", NONE, 0);
        redexes("I X", 0, 1);
        redexes("I X X", 1, 1);
        redexes("I X X X", 2, 1);
        redexes("K", NONE, 0);
        redexes("K X", NONE, 0);
        redexes("K X X", 0, 1);
        redexes("K X X X", 1, 1);
        redexes("S", NONE, 0);
        redexes("S X", NONE, 0);
        redexes("S X X", NONE, 0);
        redexes("S X X X", 0, 1);
        redexes("S X X X X", 1, 1);
        redexes("\\x.x", NONE, 0);
        redexes("(\\x.x) X", 0, 1);
        redexes("(\\x.x) X X", 1, 1);
        redexes("F X X X", NONE, 0);
        redexes("X X X X", NONE, 0);
        redexes("X (K X) X", NONE, 0);
        redexes("X (S X X) X", NONE, 0);
        redexes("X I X", NONE, 0);
        redexes("X K X X", NONE, 0);
        redexes("X (\\x.x)", NONE, 0);
        redexes("\\x.x K X", NONE, 0);
        redexes("K (K X X)", 2, 1);
        redexes("K (I X) X", 0, 2);
    }

    /** "I a: a; K a b: a; S a b c: a c (b c)", "(\x.t) u: t with u for x" */
    private static void whatRedexesBecome() {
        steps("I X", 0, 0, "X");
        steps("I (F X)", 0, 0, "F X");
        steps("K X F", 0, 0, "X");
        steps("K (F X) (F F)", 0, 0, "F X");
        steps("S X F K", 0, 0, "X K (F K)");
        steps("S (X X) (F F) (K K)", 0, 0, "X X (K K) (F F (K K))");
        steps("(\\x.K) X", 0, 0, "K");
        steps("(\\x.x) X", 0, 0, "X");
        steps("(\\x.x x) (F X)", 0, 0, "F X (F X)");
        steps("(\\x.F) (I X)", 0, 0, "F");
        steps("\\x.I x", 0, 1, "\\a.a");
        steps("\\x y.K x y", 0, 2, "\\a.\\b.a");
        steps("\\x y z.S x y z", 0, 3, "\\a.\\b.\\c.a c (b c)");
    }

    /** "each k that is bound outside of u rises by the LAMBDAS around it in t" */
    private static void variablesBoundAsBefore() {
        steps("\\z.(\\x.x) z", 0, 1, "\\a.a");
        steps("\\z.(\\x.\\y.x) z", 0, 1, "\\a.\\b.a");
        steps("\\z.(\\x.\\y w.x) z", 0, 1, "\\a.\\b.\\c.a");
        steps("\\z.(\\x.\\y.x) (\\w.w z)", 0, 1, "\\a.\\b.\\c.c a");
        steps("\\z.(\\x.\\y.x) (\\w v.w v z)", 0, 1, "\\a.\\b.\\c.\\d.c d a");
        steps("\\z.(\\x.x (\\y.x)) z", 0, 1, "\\a.a (\\b.a)");
        steps("\\z w.(\\x.\\y.x z w y) (z w)", 0, 2, "\\a.\\b.\\c.a b a b c");
        steps("\\z.(\\x.z) K", 0, 1, "\\a.a");
        steps("\\z.(\\x.\\y.z y) K", 0, 1, "\\a.\\b.a b");
        steps("(\\x.\\y.x) (\\z.z)", 0, 0, "\\a.\\b.b");
        steps("(\\x.\\y.y) K", 0, 0, "\\a.a");
    }

    /** "A STEP of way 0: the REDEX that comes first in the CODE." */
    private static void firstInTheCode() {
        steps("X", 0, NONE, "X");
        steps("I (I X)", 0, 0, "I X");
        steps("I X (I F)", 0, 1, "X (I F)");
        steps("X (I F) (I K)", 0, 3, "X F (I K)");
        steps("\\x.X (I F) (I K)", 0, 4, "\\a.X F (I K)");
        steps("K (I X) (I F)", 0, 0, "I X");
        Scene last = new Scene().term("\\x." + many("X", 248) + "(I X)");
        due.is("the last place that a REDEX can have", last.answer(x -> x.redex(0, 0)), 497);
        due.is("its STEP", last.answer(x -> x.step(0, 0)), 1);
        due.is("its SIZE", last.then(x -> x.step(0, 0)).answer(x -> x.size(0)), 498);
    }

    /** "Way 1: of all REDEXES that have none within them the first in the CODE." */
    private static void noneWithin() {
        steps("X", 1, NONE, "X");
        steps("I X", 1, 0, "X");
        steps("I (I X)", 1, 2, "I X");
        steps("I (I (I X))", 1, 4, "I (I X)");
        steps("K (I X) (I F)", 1, 3, "K X (I F)");
        steps("K X (I F)", 1, 4, "K X F");
        steps("I X (I F)", 1, 1, "X (I F)");
        steps("(\\x.I x) X", 1, 2, "(\\a.a) X");
        steps("(\\x.x) (I X)", 1, 3, "(\\a.a) X");
        steps("X (I (I F)) (I K)", 1, 5, "X (I F) (I K)");
        steps("I I (I (I F))", 1, 1, "I (I (I F))");
    }

    /** "Way 2: .. along the left sides of APPLY from the whole TERM (not into a LAMBDA) .. without such none." */
    private static void head() {
        steps("X", 2, NONE, "X");
        steps("I X", 2, 0, "X");
        steps("I X F", 2, 1, "X F");
        steps("I X F K", 2, 2, "X F K");
        steps("X (I F)", 2, NONE, "X (I F)");
        steps("K (I X)", 2, NONE, "K (I X)");
        steps("K (I X) (I F)", 2, 0, "I X");
        steps("\\x.I x", 2, NONE, "\\a.I a");
        steps("(\\x.I x) X", 2, 0, "I X");
        steps("(\\x.I x) X F", 2, 1, "I X F");
        steps("S X F", 2, NONE, "S X F");
        steps("S X F K I", 2, 1, "X K (F K) I");
    }

    /** "Way 3: (\x.(t x)) with x not in t, the first in the CODE: becomes t (.. one less)." */
    private static void shortening() {
        steps("X", 3, NONE, "X");
        steps("\\x.x", 3, NONE, "\\a.a");
        steps("\\x.F x", 3, 0, "F");
        steps("\\x.x F", 3, NONE, "\\a.a F");
        steps("\\x.x x", 3, NONE, "\\a.a a");
        steps("\\x.F (F x)", 3, NONE, "\\a.F (F a)");
        steps("\\x.(\\y.x) x", 3, NONE, "\\a.(\\b.a) a");
        steps("\\x.(\\y.y) x", 3, 0, "\\a.a");
        steps("\\z x.z x", 3, 1, "\\a.a");
        steps("\\z x.x z", 3, NONE, "\\a.\\b.b a");
        steps("\\z x.F z", 3, NONE, "\\a.\\b.F a");
        steps("\\w z x.w z x", 3, 2, "\\a.\\b.a b");
        steps("\\z x.(\\y.z y) x", 3, 1, "\\a.\\b.a b");
        steps("\\z x.z (\\y.y z) x", 3, 1, "\\a.a (\\b.b a)");
        steps("\\x.(\\y.F y) x", 3, 0, "\\a.F a");
        steps("X (\\x.F x) (\\x.K x)", 3, 3, "X F (\\a.K a)");
        steps("X (\\y.y) (\\x.F x)", 3, 5, "X (\\a.a) F");
        steps("\\z.z (\\x.F x) z", 3, 4, "\\a.a F a");
        steps("I X", 3, NONE, "I X");
        Scene normal = new Scene().term("\\x.F x");
        due.is("no REDEX of ways 0 to 2", normal.answer(x -> x.redexes(0)), 0);
        due.is("NORMAL all the same", normal.answer(x -> x.about(0, 4)), 1);
    }

    private static void grows(String text, int way, int size) {
        Scene term = new Scene().term(text);
        Scene stepped = term.then(x -> x.step(0, way));
        int before = term.answer(x -> x.size(0));
        String name = "a STEP of way " + way + " to " + size;
        due.is(name, term.answer(x -> x.step(0, way)), size > 500 ? FULL : 1);
        due.is("the SIZE behind " + name, stepped.answer(x -> x.size(0)), size > 500 ? before : size);
        due.is("the state behind " + name, size > 500 && !stepped.state().equals(term.state()) ? "changed" : "", "");
    }

    /** "FULL, if the SIZE would be above 500." of (\x.t) u */
    private static void fullByLambda() {
        for (int way = 0; way <= 2; way++) {
            // X u u has 3 NODES and u twice, a LAMBDA around it one more.
            grows("(\\x.X x x)(" + Due.sized(248) + ")", way, 499);
            grows("(\\x y.X x x)(" + Due.sized(248) + ")", way, 500);
            grows("(\\x.X x x)(" + Due.sized(249) + ")", way, 501);
            grows("(\\x y.X x x)(" + Due.sized(249) + ")", way, 502);
            grows("(\\x." + many("x ", 20) + ")(" + Due.sized(200) + ")", way, 4019);
        }
    }

    /** "FULL, if the SIZE would be above 500." of S a b c */
    private static void fullByS() {
        for (int way = 0; way <= 2; way++) {
            // a c (b c) has 3 NODES, a, b and c twice.
            grows("S K K (" + Due.sized(247) + ")", way, 499);
            grows("S K (\\x.x) (" + Due.sized(247) + ")", way, 500);
            grows("S K K (" + Due.sized(248) + ")", way, 501);
            grows("S K (\\x.x) (" + Due.sized(248) + ")", way, 502);
        }
    }

    /** The SIZE is that of the whole TERM, of which the REDEX is a part. */
    private static void fullByTheWhole() {
        for (int way = 0; way <= 1; way++) {
            // u u has 1 NODE and u twice; the row before it 2 n - 1 and an APPLY.
            String redex = "((\\x.x x)(" + Due.sized(100) + "))";
            grows(many("X", 149) + redex, way, 499);
            grows("\\z." + many("X", 149) + redex, way, 500);
            grows(many("X", 150) + redex, way, 501);
            grows("\\z." + many("X", 150) + redex, way, 502);
        }
        grows("(\\x.x x)(" + Due.sized(100) + ")" + many("X", 149), 2, 499);
        grows("(\\x.x x)(" + Due.sized(100) + ")" + many("X", 150), 2, 501);
    }

    // ---- ABSTRACTED

    private static void abstracts(String text, String told) {
        Scene term = new Scene().term(text);
        due.is("abstracted of " + text, term.answer(x -> x.abstracted(0)), 1);
        Scene made = term.then(x -> x.abstracted(0));
        due.is("what " + text + " becomes", made.text(1), told);
        due.is("its LAMBDAS", made.answer(x -> x.about(1, 1)), 0);
    }

    /** "if t is x: I; if x is not in t: K t; if t is (u x), x not in u: u; else t is (u v): S .." */
    private static void abstractedCases() {
        abstracts("K", "K");
        abstracts("F X", "F X");
        abstracts("\\x.x", "I");
        abstracts("\\x.X", "K X");
        abstracts("\\x.F X", "K (F X)");
        abstracts("\\x.F x", "F");
        abstracts("\\x.F X x", "F X");
        abstracts("\\x.x F", "S I (K F)");
        abstracts("\\x.x x", "S I I");
        abstracts("\\x.F (F x)", "S (K F) F");
        abstracts("\\x.F x x", "S F I");
        abstracts("\\x.F x X", "S F (K X)");
        abstracts("\\x.F x (K x)", "S F K");
        abstracts("\\x y.x", "K");
        abstracts("\\x y.y", "K I");
        abstracts("\\x y.X", "K (K X)");
        abstracts("\\x y.x y", "I");
        abstracts("\\x y.y x", "S (K (S I)) K");
        abstracts("\\x.\\y.F x y", "F");
        abstracts("\\x.(\\y.y) x", "I");
        abstracts("(\\x.x) (\\x.X)", "I (K X)");
        abstracts("0", "K I");
        abstracts("1", "I");
        abstracts("\\x y z.x z (y z)", "S");
    }

    // ---- TYPES

    private static void types(String text, String type) {
        Scene term = new Scene().term(text);
        int length = type.isEmpty() ? NONE : type.split(" ").length;
        due.is("typed of " + text, term.answer(x -> x.typed(0)), length);
        due.is("type of " + text, term.then(x -> x.typed(0)).type(), type);
    }

    /** "S has (a -> b -> c) -> (a -> b) -> a -> c, K a -> b -> a, I a -> a, F a -> a, X a" */
    private static void typesOfLetters() {
        types("S", "0 0 1 0 2 3 0 0 1 2 0 1 3");
        types("K", "0 1 0 2 1");
        types("I", "0 1 1");
        types("F", "0 1 1");
        types("X", "1");
        // "each time with others for a, b, c for S, K, I"
        types("I I", "0 1 1");
        types("K K", "0 1 0 2 0 3 2");
        types("K I I", "0 1 1");
        types("S S", "0 0 0 1 0 2 3 0 1 2 0 0 1 0 2 3 0 1 3");
        // "F and X with the same ones in the whole TERM"
        types("F X", "1");
        types("F F", "");
        types("X X", "");
        types("K F X", "0 1 1");
        types("\\x.x F X", "0 0 0 1 1 0 1 2 2");
        types("\\x.x X X", "0 0 1 0 1 2 2");
        types("\\x.x F F", "0 0 0 1 1 0 0 1 1 2 2");
        types("\\x.x I I", "0 0 0 1 1 0 0 2 2 3 3");
    }

    /** "1 + i: the i-th of what stands for any (0, 1, .., as they first stand in the CODE)" */
    private static void typesOfTheWhole() {
        types("\\x.x", "0 1 1");
        types("\\x y.y", "0 1 0 2 2");
        types("\\x y.x", "0 1 0 2 1");
        types("\\x y z.z", "0 1 0 2 0 3 3");
        types("\\x y.x y", "0 0 1 2 0 1 2");
        types("\\x y.y x", "0 1 0 0 1 2 2");
        types("\\x.X", "0 1 2");
        types("\\x.F x", "0 1 1");
        types("(\\x y.y) X", "0 1 1");
        types("K I X", "0 1 1");
        // "each LAMBDA's VARIABLES have one TYPE"
        types("\\f.f (f X)", "0 0 1 1 1");
        types("\\f.K (f X) (f F)", "");
        types("\\x.K (F x) x", "0 1 1");
    }

    /** "none, if there is none (also none of which a part is itself)" */
    private static void typesThatAreNone() {
        types("\\x.x x", "");
        types("\\x y.x y x", "");
        types("S I I", "");
        types("X F", "");
        types("F I", "0 1 1");
        types("F K", "0 1 0 2 1");
        types("F (F I) X", "");
        types("K X (\\x.x x)", "");
        types("K (X X) F", "");
        types("\\y.(\\x.x x) y", "");
        types("(\\i.i i) I", "");
        types("S K K", "0 1 1");
        types("S K S", "0 0 1 0 2 3 0 1 0 2 3");
    }
}
