/** Promises 1 to 24 at their boundaries: just within, at them and just beyond. */
public final class CallsEdgesTest {
    private static final int BAD = -1, STATE = -2, FULL = -3, NONE = -4;
    private static final int LEAST = Integer.MIN_VALUE, MOST = Integer.MAX_VALUE;
    private static final Due due = new Due("CallsEdgesTest");

    public static void main(String[] args) {
        newObject();
        feedUpTo600();
        feedHighestFirst();
        endWithinTheTape();
        endForgetsWhatIsBehind();
        termAnswers();
        termEmptiesTheTape();
        termFull();
        faultOfTheLatest();
        sizes();
        codePlaces();
        letterPlaces();
        letterNames();
        letterParentheses();
        applySizes();
        applyFull();
        copies();
        sameToTheLastCell();
        stepWays();
        stepsAtMost();
        stepsUntilFull();
        toldBefore();
        toldGreatest();
        redexPlaces();
        redexesAll();
        abstractedSizes();
        abstractedWithin();
        abstractedFull();
        numbersByLambdas();
        numbersByLetters();
        readAtMost();
        readSizes();
        readIsNotKept();
        typedLengths();
        typeOfTheLatest();
        typedAgain();
        aboutLambdas();
        aboutWhat();
        dropToNone();
        countMost();
        due.finish();
    }

    private static String many(String part, int n) {
        return Due.many(part, n);
    }

    private static void is(String name, Scene scene, Scene.Call call, int want) {
        due.is(name, scene.answer(call), want);
    }

    // ---- Promise 1

    /** "No TERMS, nothing on THE TAPE." */
    private static void newObject() {
        Scene fresh = new Scene();
        is("count(0)", fresh, x -> x.count(0), 0);
        is("count(1)", fresh, x -> x.count(1), 0);
        is("count(2)", fresh, x -> x.count(2), 0);
        is("size(0)", fresh, x -> x.size(0), BAD);
        is("drop()", fresh, x -> x.drop(), NONE);
        is("end(0)", fresh, x -> x.end(0), 0);
        is("term()", fresh, x -> x.term(), -10);
    }

    // ---- Promise 2

    private static final Scene.Call FEED = x -> x.feed(0x4B4B4B4B, 0x4B4B4B4B, 0x4B4B4B4B, 0x4B4B4B4B, 0x4B4B4B4B);

    /** "how many it has. FULL: more than 600." */
    private static void feedUpTo600() {
        Scene fed = new Scene();
        for (int had = 0; had <= 580; had += 20) {
            is("feed on " + had, fed, FEED, had + 20);
            fed = fed.then(FEED);
        }
        is("feed on 600", fed, FEED, FULL);
        Scene full = fed.then(FEED);
        is("600 stay", full, x -> x.count(1), 600);
        is("feed on 599", full.then(x -> x.end(599)), FEED, FULL);
        is("feed on 581", full.then(x -> x.end(581)), FEED, FULL);
        is("feed on 580", full.then(x -> x.end(580)), FEED, 600);
        is("feed on 579", full.then(x -> x.end(579)), FEED, 599);
        is("581 stay", full.then(x -> x.end(581), FEED), x -> x.count(1), 581);
        is("bytes that are 0 are bytes", new Scene(), x -> x.feed(0, 0, 0, 0, 0), 20);
    }

    /** "Twenty bytes come behind THE TAPE, of each number the highest first" */
    private static void feedHighestFirst() {
        for (int at = 0; at < 20; at++) {
            int place = at;
            String blanks = many(" ", at);
            Scene one = new Scene().tape(blanks + "K" + many(" ", 19 - at));
            Scene wrong = new Scene().tape(blanks + (char) 255 + many("K", 19 - at));
            is("K at " + at, one, x -> x.term(), 0);
            is("just K at " + at, one.then(x -> x.end(place + 1)), x -> x.term(), 0);
            is("before K at " + at, one.then(x -> x.end(place)), x -> x.term(), -10 - place);
            is("byte 255 at " + at, wrong, x -> x.term(), -10 - place);
        }
        Scene first = new Scene().then(x -> x.feed(0x5C782E28, 0x53204B20, 0x49204620, 0x58207829, 0x20202020));
        due.is("twenty bytes", first.then(LambdaShelf::term).text(0), "\\a.S K I F X a");
        Scene second = new Scene().tape("K S I F X K S I F X ").tape("I");
        due.is("twenty behind twenty", second.then(LambdaShelf::term).text(0), "K S I F X K S I F X I");
        is("the least number", new Scene(), x -> x.feed(LEAST, LEAST, LEAST, LEAST, LEAST), 20);
        is("the greatest number", new Scene(), x -> x.feed(MOST, MOST, MOST, MOST, MOST), 20);
    }

    // ---- Promise 3

    /** "THE TAPE keeps its first n bytes: how many it had. BAD." */
    private static void endWithinTheTape() {
        Scene twenty = new Scene().tape(many("K", 20));
        is("end(20)", twenty, x -> x.end(20), 20);
        is("end(19)", twenty, x -> x.end(19), 20);
        is("end(1)", twenty, x -> x.end(1), 20);
        is("end(0)", twenty, x -> x.end(0), 20);
        is("end(21)", twenty, x -> x.end(21), BAD);
        is("end(-1)", twenty, x -> x.end(-1), BAD);
        is("end(least)", twenty, x -> x.end(LEAST), BAD);
        is("end(most)", twenty, x -> x.end(MOST), BAD);
        is("20 kept", twenty.then(x -> x.end(20)), x -> x.count(1), 20);
        is("19 kept", twenty.then(x -> x.end(19)), x -> x.count(1), 19);
        is("0 kept", twenty.then(x -> x.end(0)), x -> x.count(1), 0);
        is("19 had", twenty.then(x -> x.end(19)), x -> x.end(0), 19);
        is("end(20) on 19", twenty.then(x -> x.end(19)), x -> x.end(20), BAD);
        is("end(1) on none", new Scene(), x -> x.end(1), BAD);
        Scene full = new Scene().tape(many("K", 600));
        is("end(600)", full, x -> x.end(600), 600);
        is("end(601)", full, x -> x.end(601), BAD);
    }

    private static void endForgetsWhatIsBehind() {
        Scene cut = new Scene().tape("K S I F X K S I F X ").then(x -> x.end(3)).tape(" F");
        due.is("what is behind n is gone", cut.then(LambdaShelf::term).text(0), "K S F");
        Scene first = new Scene().tape("K S").then(LambdaShelf::term, x -> x.end(0));
        is("behind a TERM nothing is left", first, x -> x.term(), -10);
        due.is("a name ends where THE TAPE ends",
                new Scene().tape("\\ab.ab").then(x -> x.end(5), LambdaShelf::term).state(),
                new Scene().tape("\\ab.a").then(LambdaShelf::term).state());
    }

    // ---- Promises 4 and 5

    /** "its number; -10 less the place of its FAULT" */
    private static void termAnswers() {
        is("the first", new Scene().tape("K"), x -> x.term(), 0);
        is("the second", new Scene().term("K").tape("K"), x -> x.term(), 1);
        is("a FAULT at 0", new Scene().tape("$"), x -> x.term(), -10);
        is("a FAULT at 1", new Scene().tape("K$"), x -> x.term(), -11);
        is("a FAULT at 599", new Scene().tape(many("K", 599) + "$"), x -> x.term(), -609);
        is("a FAULT at 600", new Scene().tape("(" + many("K", 599)), x -> x.term(), -610);
        is("no number goes to a FAULT", new Scene().term("K").term("$").tape("K"), x -> x.term(), 1);
        is("a SIZE behind another FAULT", new Scene().term("K$").tape(many("X", 251)), x -> x.term(), -10);
    }

    /** "THE TAPE (empty then)" */
    private static void termEmptiesTheTape() {
        String[] texts = {"K", "$", "(", "q", many("(", 41), many("X", 251), "", "\\", "\\x", "\\x.", "(\\x.x q"};
        int[] faults = {0, 1, 2, 3, 4, 5, 2, 2, 2, 2, 3};
        for (int i = 0; i < texts.length; i++) {
            Scene read = new Scene().term("K").term(texts[i]);
            is("fault " + i, read, x -> x.fault(), faults[i]);
            is("tape behind it " + i, read, x -> x.count(1), 0);
            is("terms behind it " + i, read, x -> x.count(0), faults[i] == 0 ? 2 : 1);
            is("feed behind it " + i, read, FEED, 20);
            Scene next = read.term("\\x y.y x");
            is("the next one's FAULT " + i, next, x -> x.fault(), 0);
            due.is("the next one " + i, next.text(faults[i] == 0 ? 2 : 1), "\\a.\\b.b a");
            is("a NAME of the one before " + i, read.tape("x"), x -> x.term(), -10);
        }
    }

    /** "FULL: 32 are there (THE TAPE stays)." */
    private static void termFull() {
        Scene all = new Scene().term("K").copies(0, 31).tape("(\\x.x)");
        is("with 31", all, x -> x.term(), 31);
        Scene full = all.then(x -> x.copy(0));
        is("with 32", full, x -> x.term(), FULL);
        is("THE TAPE stays", full.then(LambdaShelf::term), x -> x.count(1), 6);
        is("so do the TERMS", full.then(LambdaShelf::term), x -> x.count(0), 32);
        Scene later = full.then(LambdaShelf::term, LambdaShelf::drop);
        is("and is read later", later, x -> x.term(), 31);
        due.is("as it was", later.then(LambdaShelf::term).text(31), "\\a.a");
        Scene wrong = new Scene().term("K").copies(0, 32).tape("$");
        is("a FAULT on it is not met", wrong, x -> x.term(), FULL);
        is("nothing on it", new Scene().term("K").copies(0, 32), x -> x.term(), FULL);
    }

    /** "The FAULT of the latest term() that was not FULL; 0." */
    private static void faultOfTheLatest() {
        is("before any", new Scene(), x -> x.fault(), 0);
        is("of none", new Scene().term("K"), x -> x.fault(), 0);
        is("of one", new Scene().term("q"), x -> x.fault(), 3);
        is("of one behind none", new Scene().term("K").term("q"), x -> x.fault(), 3);
        is("of none behind one", new Scene().term("q").term("K"), x -> x.fault(), 0);
        is("of two", new Scene().term("q").term("$"), x -> x.fault(), 1);
        Scene full = new Scene().term("K").term("q").copies(0, 32);
        is("before FULL", full, x -> x.fault(), 3);
        is("behind FULL", full.tape("$").then(LambdaShelf::term), x -> x.fault(), 3);
        Scene none = new Scene().term("K").copies(0, 32);
        is("0 behind FULL", none.tape("$").then(LambdaShelf::term), x -> x.fault(), 0);
        is("behind other calls", new Scene().term("q").tape("K").then(x -> x.end(0), x -> x.drop()), x -> x.fault(), 3);
    }

    // ---- Promises 6 and 7

    /** "The SIZE of a TERM. BAD." */
    private static void sizes() {
        Scene two = new Scene().terms("K", Due.sized(500));
        is("the least", two, x -> x.size(0), 1);
        is("the most", two, x -> x.size(1), 500);
        is("behind the last", two, x -> x.size(2), BAD);
        is("before the first", two, x -> x.size(-1), BAD);
        is("size(least)", two, x -> x.size(LEAST), BAD);
        is("size(most)", two, x -> x.size(MOST), BAD);
        is("of one that went", two.then(LambdaShelf::drop), x -> x.size(1), BAD);
    }

    /** "Number i of the CODE of a TERM. BAD." */
    private static void codePlaces() {
        Scene some = new Scene().terms("K", "\\x.x", Due.sized(500));
        is("code(0, 0)", some, x -> x.code(0, 0), 3);
        is("code(0, 1)", some, x -> x.code(0, 1), BAD);
        is("code(0, -1)", some, x -> x.code(0, -1), BAD);
        is("code(1, 1)", some, x -> x.code(1, 1), 10);
        is("code(1, 2)", some, x -> x.code(1, 2), BAD);
        is("code(2, 0)", some, x -> x.code(2, 0), 1);
        is("code(2, 499)", some, x -> x.code(2, 499), 6);
        is("code(2, 500)", some, x -> x.code(2, 500), BAD);
        is("code(2, least)", some, x -> x.code(2, LEAST), BAD);
        is("code(2, most)", some, x -> x.code(2, MOST), BAD);
        is("code(3, 0)", some, x -> x.code(3, 0), BAD);
        is("code(-1, 0)", some, x -> x.code(-1, 0), BAD);
        Scene shorter = some.term("I X").then(x -> x.step(3, 0));
        is("what a STEP took away", shorter, x -> x.code(3, 1), BAD);
    }

    // ---- Promise 8

    /** "Byte i of a TERM's text, 0 its end .. BAD." */
    private static void letterPlaces() {
        Scene some = new Scene().terms("K", "K (S I)");
        is("letter(0, 0)", some, x -> x.letter(0, 0), 'K');
        is("its end", some, x -> x.letter(0, 1), 0);
        is("behind its end", some, x -> x.letter(0, 2), BAD);
        is("before it", some, x -> x.letter(0, -1), BAD);
        is("letter(0, least)", some, x -> x.letter(0, LEAST), BAD);
        is("letter(0, most)", some, x -> x.letter(0, MOST), BAD);
        is("the last byte", some, x -> x.letter(1, 6), ')');
        is("the end", some, x -> x.letter(1, 7), 0);
        is("behind the end", some, x -> x.letter(1, 8), BAD);
        is("letter(2, 0)", some, x -> x.letter(2, 0), BAD);
        is("letter(-1, 0)", some, x -> x.letter(-1, 0), BAD);
        Scene large = new Scene().term(many("X", 250));
        is("the last of 250 and their blanks", large, x -> x.letter(0, 498), 'X');
        is("their end", large, x -> x.letter(0, 499), 0);
        is("behind their end", large, x -> x.letter(0, 500), BAD);
    }

    /** "the NAME of their depth (a for none around, then b, .. z, aa, ab ..)" */
    private static void letterNames() {
        due.is("a", new Scene().term("\\x.x").text(0), "\\a.a");
        due.is("b", new Scene().term("\\x y.y").text(0), "\\a.\\b.b");
        due.is("depth alone", new Scene().term("(\\x.x)(\\y z.y)(\\x.x)").text(0), "(\\a.a) (\\a.\\b.a) (\\a.a)");
        // Each STEP brings 26 LAMBDAS around what is there.
        Scene deep = new Scene().terms("\\f." + many("\\x.", 26) + "f", "\\x.x");
        for (int i = 0; i < 4; i++) {
            int latest = 1 + i;
            deep = deep.then(x -> x.apply(0, latest), x -> x.step(latest + 1, 0));
        }
        due.is("z, then aa", deep.text(2).substring(25 * 3), "\\z.\\aa.aa");
        due.is("az, then ba", deep.text(3).substring(26 * 3 + 25 * 4), "\\az.\\ba.ba");
        due.is("bz, then ca", deep.text(4).substring(26 * 3 + 51 * 4), "\\bz.\\ca.ca");
        due.is("cz, then da", deep.text(5).substring(26 * 3 + 77 * 4), "\\cz.\\da.da");
        StringBuilder names = new StringBuilder();
        for (int depth = 0; depth < 105; depth++) {
            names.append('\\').append(Model.nameOf(depth)).append('.');
        }
        due.is("all names", deep.text(5), names + "da");
    }

    /** "around the second of an APPLY ( ), if it is an APPLY or a LAMBDA, around the first, if it is a LAMBDA" */
    private static void letterParentheses() {
        String[] texts = {"K", "K S", "K S I", "K (S I)", "(\\a.a) K", "K (\\a.a)", "(\\a.a) (\\a.a)", "\\a.a K",
            "\\a.a (K a)", "\\a.(\\b.b) a", "\\a.a (\\b.b)", "K S (I F)", "K (S (I F))", "K (S I F)", "K (S I) (F X)",
            "K (\\a.a) S", "(\\a.a) K S", "K (\\a.a (\\b.b a)) S", "(\\a.\\b.a) K", "K ((\\a.a) S)"};
        for (String text : texts) {
            due.is("text of " + text, new Scene().term(text).text(0), text);
        }
        due.is("no others", new Scene().term("((K) ((S)) ((I F)))").text(0), "K S (I F)");
    }

    // ---- Promises 9 to 11

    /** "A TERM that is an APPLY of two .. FULL: also the SIZE." */
    private static void applySizes() {
        int[] firsts = {248, 249, 249, 250, 1, 1, 498, 499};
        int[] seconds = {250, 250, 251, 250, 498, 499, 1, 1};
        for (int i = 0; i < firsts.length; i++) {
            int size = firsts[i] + seconds[i] + 1;
            Scene two = new Scene().terms(Due.sized(firsts[i]), Due.sized(seconds[i]));
            is("apply to " + size, two, x -> x.apply(0, 1), size > 500 ? FULL : 2);
            is("count behind " + size, two.then(x -> x.apply(0, 1)), x -> x.count(0), size > 500 ? 2 : 3);
            is("size of " + size, two.then(x -> x.apply(0, 1)), x -> x.size(2), size > 500 ? BAD : size);
        }
        Scene two = new Scene().terms("\\x.x", "K S");
        due.is("the first, then the second", two.then(x -> x.apply(0, 1)).code(2), "0 1 10 0 3 2");
        due.is("the other way", two.then(x -> x.apply(1, 0)).code(2), "0 0 3 2 1 10");
        due.is("one with itself", two.then(x -> x.apply(1, 1)).code(2), "0 0 3 2 0 3 2");
    }

    /** "BAD; FULL" of apply */
    private static void applyFull() {
        Scene some = new Scene().term("K").copies(0, 31);
        is("the 32nd", some, x -> x.apply(0, 30), 31);
        is("there is no second", some, x -> x.apply(0, 31), BAD);
        is("there is no first", some, x -> x.apply(31, 0), BAD);
        is("neither", some, x -> x.apply(-1, MOST), BAD);
        is("the 33rd", some.then(x -> x.copy(0)), x -> x.apply(0, 0), FULL);
    }

    /** "A TERM that is like one: its number. BAD; FULL." */
    private static void copies() {
        Scene some = new Scene().terms("I X", Due.sized(500));
        is("copy(0)", some, x -> x.copy(0), 2);
        is("copy(1)", some, x -> x.copy(1), 2);
        is("copy(2)", some, x -> x.copy(2), BAD);
        is("copy(-1)", some, x -> x.copy(-1), BAD);
        due.is("500 are alike", some.then(x -> x.copy(1)).code(2), some.code(1));
        Scene copied = some.then(x -> x.copy(0));
        due.is("a STEP of the copy leaves the first", copied.then(x -> x.step(2, 0)).text(0), "I X");
        due.is("a STEP of the first leaves the copy", copied.then(x -> x.step(0, 0)).text(2), "I X");
        Scene most = some.copies(0, 31);
        is("the 32nd", most, x -> x.copy(1), 31);
        is("the 33rd", most.then(x -> x.copy(1)), x -> x.copy(1), FULL);
    }

    /** "Whether two TERMS are one (1, 0). BAD." */
    private static void sameToTheLastCell() {
        String row = many("X", 249);
        Scene some = new Scene().terms("\\x." + row + "K", "\\x." + row + "K", "\\x." + row + "S", "\\x." + row + "x",
                many("X", 249), many("X", 250), "\\a b.a", "\\b a.b", "\\a b.b", "K", "S");
        is("alike to the last cell", some, x -> x.same(0, 1), 1);
        is("one and itself", some, x -> x.same(0, 0), 1);
        is("the last cell is another", some, x -> x.same(0, 2), 0);
        is("the last cell is a VARIABLE", some, x -> x.same(3, 0), 0);
        is("one is shorter", some, x -> x.same(4, 5), 0);
        is("one is longer", some, x -> x.same(5, 4), 0);
        is("names are nothing", some, x -> x.same(6, 7), 1);
        is("another VARIABLE", some, x -> x.same(6, 8), 0);
        is("another first cell", some, x -> x.same(9, 10), 0);
        is("no second", some, x -> x.same(0, 11), BAD);
        is("no first", some, x -> x.same(11, 0), BAD);
        is("neither", some, x -> x.same(-1, -1), BAD);
    }

    // ---- Promises 12 to 14

    /** "A STEP of a way (0 to 3) of a TERM: 1; 0: there is none. BAD; FULL." */
    private static void stepWays() {
        Scene some = new Scene().terms("I X", "\\x.F x", "X");
        int[] bad = {LEAST, -1, 4, MOST};
        for (int way : bad) {
            is("step by way " + way, some, x -> x.step(0, way), BAD);
            is("steps by way " + way, some, x -> x.steps(0, way, 1), BAD);
            is("steps by way " + way + ", none", some, x -> x.steps(0, way, 0), BAD);
            is("redex by way " + way, some, x -> x.redex(0, way), BAD);
        }
        for (int w = 0; w <= 3; w++) {
            int way = w;
            is("I X by way " + way, some, x -> x.step(0, way), way < 3 ? 1 : 0);
            is("\\x.F x by way " + way, some, x -> x.step(1, way), way < 3 ? 0 : 1);
            is("X by way " + way, some, x -> x.step(2, way), 0);
            is("no TERM by way " + way, some, x -> x.step(3, way), BAD);
            is("TERM -1 by way " + way, some, x -> x.step(-1, way), BAD);
            due.is("none changes nothing, way " + way, some.then(x -> x.step(2, way)).state(), some.state());
        }
    }

    /** A row of I has one STEP less than there are. */
    private static Scene rowOfI(int many) {
        return new Scene().term(many("I", many));
    }

    /** "STEPS of a way, n (0 to 200) at most, until there is none .. how many. BAD." */
    private static void stepsAtMost() {
        is("n of -1", rowOfI(9), x -> x.steps(0, 0, -1), BAD);
        is("n of 201", rowOfI(9), x -> x.steps(0, 0, 201), BAD);
        is("n of least", rowOfI(9), x -> x.steps(0, 0, LEAST), BAD);
        is("n of most", rowOfI(9), x -> x.steps(0, 0, MOST), BAD);
        is("there is no TERM", rowOfI(9), x -> x.steps(1, 0, 1), BAD);
        is("TERM -1", rowOfI(9), x -> x.steps(-1, 0, 1), BAD);
        int[] rows = {1, 2, 3, 200, 201, 202, 250};
        int[] ns = {0, 1, 2, 199, 200};
        for (int row : rows) {
            for (int n : ns) {
                Scene before = rowOfI(row);
                Scene behind = before.then(x -> x.steps(0, 0, n));
                int done = Math.min(row - 1, n);
                String name = n + " of " + (row - 1) + " STEPS";
                is(name, before, x -> x.steps(0, 0, n), done);
                is("told(0) of " + name, behind, x -> x.told(0), done == n ? 1 : 0);
                is("told(1) of " + name, behind, x -> x.told(1), done == 0 ? 0 : 2 * row - 3);
                is("size behind " + name, behind, x -> x.size(0), 2 * (row - done) - 1);
            }
        }
    }

    /** "or one would be FULL"; "0 how it ended (.. 2 FULL; with n done: 1, whatever would come)" */
    private static void stepsUntilFull() {
        // 13 NODES and 7 more by each STEP: 496 behind 69.
        Scene growing = new Scene().term("(\\x.x x x)(\\x.x x x)");
        int[] ns = {68, 69, 70, 200};
        for (int n : ns) {
            Scene behind = growing.then(x -> x.steps(0, 0, n));
            int done = Math.min(n, 69);
            is(n + " of 69 STEPS", growing, x -> x.steps(0, 0, n), done);
            is("told(0) of " + n, behind, x -> x.told(0), n > 69 ? 2 : 1);
            is("told(1) of " + n, behind, x -> x.told(1), 13 + 7 * done);
            is("size behind " + n, behind, x -> x.size(0), 13 + 7 * done);
        }
        Scene full = growing.then(x -> x.steps(0, 0, 69));
        is("FULL at once", full, x -> x.steps(0, 0, 1), 0);
        is("told(0) of FULL at once", full.then(x -> x.steps(0, 0, 1)), x -> x.told(0), 2);
        is("told(1) of FULL at once", full.then(x -> x.steps(0, 0, 1)), x -> x.told(1), 0);
        is("told(0) of no STEP", full.then(x -> x.steps(0, 0, 0)), x -> x.told(0), 1);
        is("told(1) of no STEP", full.then(x -> x.steps(0, 0, 0)), x -> x.told(1), 0);
        is("told(0) of way 3", full.then(x -> x.steps(0, 3, 1)), x -> x.told(0), 0);
        Scene five = new Scene().term("(\\x y.X x x)(" + Due.sized(248) + ")");
        is("one to 500", five, x -> x.steps(0, 0, 9), 1);
        is("told(0) of it", five.then(x -> x.steps(0, 0, 9)), x -> x.told(0), 0);
        is("told(1) of it", five.then(x -> x.steps(0, 0, 9)), x -> x.told(1), 500);
    }

    /** "Of the latest steps() that was not BAD .. 0 before. BAD." */
    private static void toldBefore() {
        Scene fresh = new Scene();
        is("told(0) before", fresh, x -> x.told(0), 0);
        is("told(1) before", fresh, x -> x.told(1), 0);
        is("told(-1)", fresh, x -> x.told(-1), BAD);
        is("told(2)", fresh, x -> x.told(2), BAD);
        is("told(least)", fresh, x -> x.told(LEAST), BAD);
        is("told(most)", fresh, x -> x.told(MOST), BAD);
        Scene bad = new Scene().term("I X").then(x -> x.steps(0, 4, 1), x -> x.steps(1, 0, 1), x -> x.steps(0, 0, 201));
        is("told(0) behind BAD alone", bad, x -> x.told(0), 0);
        is("told(1) behind BAD alone", bad, x -> x.told(1), 0);
        Scene one = rowOfI(9).then(x -> x.steps(0, 0, 2), x -> x.steps(0, 4, 1), x -> x.steps(1, 0, 1),
                x -> x.steps(0, 0, -1), x -> x.steps(0, 0, 201));
        is("told(0) behind BAD", one, x -> x.told(0), 1);
        is("told(1) behind BAD", one, x -> x.told(1), 15);
        Scene others = one.then(x -> x.step(0, 0), x -> x.read(0, 9), x -> x.drop(), x -> x.drop());
        is("told(0) behind others", others, x -> x.told(0), 1);
        is("told(1) behind others", others, x -> x.told(1), 15);
    }

    /** "1 the greatest SIZE that came behind a STEP (0: there was none)" */
    private static void toldGreatest() {
        // Way 1 turns the S first: 15 behind 13, then 1.
        Scene some = new Scene().terms("K X (S X X (X X))", "I (I X)", "X");
        is("two STEPS", some, x -> x.steps(0, 1, 9), 2);
        is("the greatest is in the midst", some.then(x -> x.steps(0, 1, 9)), x -> x.told(1), 15);
        is("SIZE before", some, x -> x.size(0), 13);
        is("SIZE at last", some.then(x -> x.steps(0, 1, 9)), x -> x.size(0), 1);
        is("not the SIZE before", some.then(x -> x.steps(1, 0, 9)), x -> x.told(1), 3);
        is("none", some.then(x -> x.steps(0, 1, 9), x -> x.steps(2, 0, 9)), x -> x.told(1), 0);
    }

    // ---- Promises 15 and 16

    /** "The place in the CODE of the REDEX of the next STEP of a way. BAD; NONE." */
    private static void redexPlaces() {
        Scene some = new Scene().terms("I X", "\\x." + many("X", 248) + "(I X)", "X",
                "\\x z." + many("X", 247) + "(\\y.F y)");
        is("the first place", some, x -> x.redex(0, 0), 0);
        is("the last place", some, x -> x.redex(1, 0), 497);
        is("the last place, way 1", some, x -> x.redex(1, 1), 497);
        is("the head has none", some, x -> x.redex(1, 2), NONE);
        is("the last place, way 3", some, x -> x.redex(3, 3), 496);
        for (int w = 0; w <= 3; w++) {
            int way = w;
            is("none by way " + way, some, x -> x.redex(2, way), NONE);
            is("no TERM by way " + way, some, x -> x.redex(4, way), BAD);
            is("TERM -1 by way " + way, some, x -> x.redex(-1, way), BAD);
        }
        Scene full = new Scene().term("(\\x.x x x)(\\x.x x x)").then(x -> x.steps(0, 0, 69));
        is("of a STEP that is FULL", full, x -> x.redex(0, 0), 69);
    }

    /** "How many REDEXES (of ways 0 to 2) a TERM has, all. BAD." */
    private static void redexesAll() {
        is("none", new Scene().term("X"), x -> x.redexes(0), 0);
        is("one", new Scene().term("I X"), x -> x.redexes(0), 1);
        is("one within one", new Scene().term("I (I X)"), x -> x.redexes(0), 2);
        is("in both sides", new Scene().term("K (I X) (I X)"), x -> x.redexes(0), 3);
        is("in a LAMBDA", new Scene().term("\\x.I x"), x -> x.redexes(0), 1);
        is("way 3 is none", new Scene().term("\\x.F x"), x -> x.redexes(0), 0);
        is("of each kind", new Scene().term("X (I X) (K X X) (S X X X) ((\\x.x) X)"), x -> x.redexes(0), 4);
        is("40 within one another", new Scene().term(many("I(", 40) + "I X" + many(")", 40)), x -> x.redexes(0), 41);
        is("124 in a row", new Scene().term("X" + many("(IX)", 124)), x -> x.redexes(0), 124);
        is("behind the last", new Scene().term("I X"), x -> x.redexes(1), BAD);
        is("before the first", new Scene().term("I X"), x -> x.redexes(-1), BAD);
    }

    // ---- Promise 17

    private static void abstracts(String name, Scene scene, int t, int size) {
        int next = scene.answer(x -> x.count(0));
        Scene made = scene.then(x -> x.abstracted(t));
        is(name, scene, x -> x.abstracted(t), size > 500 ? FULL : next);
        is("size of " + name, made, x -> x.size(next), size > 500 ? BAD : size);
        is("count of " + name, made, x -> x.count(0), size > 500 ? next : next + 1);
        due.is("what was before " + name, made.code(t), scene.code(t));
    }

    /** "FULL: also if what any LAMBDA of it becomes has a SIZE above 500." */
    private static void abstractedSizes() {
        abstracts("499 without a LAMBDA", new Scene().term(many("X", 250)), 0, 499);
        abstracts("K t of 499", new Scene().term("\\x." + many("X", 249)), 0, 499);
        abstracts("K t of 501", new Scene().term("\\x." + many("X", 250)), 0, 501);
        abstracts("K (K t) of 499", new Scene().term("\\x y." + many("X", 248)), 0, 499);
        abstracts("K (K t) of 501", new Scene().term("\\x y." + many("X", 249)), 0, 501);
        abstracts("u of 497", new Scene().term("\\x." + many("X", 249) + "x"), 0, 497);
        // S (u) (K v): a K and an APPLY for v, an S and an APPLY for both.
        abstracts("S of 499", new Scene().term("\\x." + many("X", 247) + "x X"), 0, 499);
        abstracts("S of 501", new Scene().term("\\x." + many("X", 248) + "x X"), 0, 501);
        abstracts("S of S of S", new Scene().term("\\x.x" + many("X", 160)), 0, 961);
        // Two LAMBDAS that fit, and a whole that fits or not.
        Scene parts = new Scene().terms("\\x." + many("X", 124), "\\x." + many("X", 125));
        abstracts("two of 249", parts.then(x -> x.apply(0, 0)), 2, 499);
        abstracts("249 and 251", parts.then(x -> x.apply(0, 1)), 2, 501);
    }

    /** What a LAMBDA becomes is looked at, not what it is around on the way. */
    private static void abstractedWithin() {
        // \y z.t becomes K (K t) of 499 within, with its APPLY and x 501, and by the \x again 499.
        abstracts("501 within a LAMBDA", new Scene().term("\\x.(\\y z." + many("X", 248) + ")x"), 0, 499);
        // The same by S: K t behind both, so 2 less than what it is around.
        abstracts("S of two that shorten", new Scene().term("\\x." + many("X", 124) + "x(" + many("X", 124) + "x)"), 0, 497);
        // An inner one of 1 + 6 * 82 for the row of y, and 6 or 8 for what is before it.
        abstracts("499 of an inner LAMBDA", new Scene().term("\\x.(\\y.X(y" + many("X", 82) + "))x"), 0, 499);
        abstracts("501 of an inner LAMBDA", new Scene().term("\\x.(\\y.X X(y" + many("X", 82) + "))x"), 0, 501);
        // Two inner ones that fit, around which a LAMBDA has 503 or more.
        for (int row = 41; row <= 60; row++) {
            String inner = "(\\y.y" + many("X", row) + ")";
            abstracts("K of two of " + row, new Scene().term("\\x." + inner + inner), 0, 2 * (1 + 6 * row) + 3);
            abstracts("S of two of " + row, new Scene().term("\\x." + inner + "x(" + inner + "x)"), 0,
                    2 * (1 + 6 * row) + 3);
            abstracts("two of " + row, new Scene().term(inner + inner), 0, 2 * (1 + 6 * row) + 1);
        }
        // Many that fit, far beyond 500 together.
        abstracts("40 in a row", new Scene().term("X" + many("(\\x.x x X)", 40)), 0, 1 + 40 * 12);
        abstracts("42 in a row", new Scene().term("X" + many("(\\x.x x X)", 42)), 0, 1 + 42 * 12);
        abstracts("49 of two LAMBDAS", new Scene().term("X" + many("(\\x y.y x y)", 49)), 0, 1 + 49 * 22);
    }

    /** "A TERM ABSTRACTED, as a new one: its number. BAD; FULL" */
    private static void abstractedFull() {
        Scene some = new Scene().term("\\x.x").copies(0, 31);
        is("the 32nd", some, x -> x.abstracted(30), 31);
        is("there is none", some, x -> x.abstracted(31), BAD);
        is("TERM -1", some, x -> x.abstracted(-1), BAD);
        is("the 33rd", some.then(x -> x.copy(0)), x -> x.abstracted(0), FULL);
        is("BAD with 32", some.then(x -> x.copy(0)), x -> x.abstracted(32), BAD);
    }

    // ---- Promise 18

    private static void number(String text, int want) {
        is("number of " + text, new Scene().term(text), x -> x.number(0), want);
    }

    /** "of \f x. f (f (.. x)) (also \f.f: 1) how many f" */
    private static void numbersByLambdas() {
        for (int n = 0; n <= 20; n++) {
            number("" + n, n);
        }
        number("\\f x." + many("f(", 37) + "f x" + many(")", 37), 38);
        number("\\f.f", 1);
        number("\\f x.x", 0);
        number("\\f x.f x", 1);
        number("\\f x.f", NONE);
        number("\\f x.f f", NONE);
        number("\\f x.x f", NONE);
        number("\\f x.x x", NONE);
        number("\\f x.f x x", NONE);
        number("\\f x.f (x x)", NONE);
        number("\\f x.f (f f)", NONE);
        number("\\f x.f f x", NONE);
        number("\\f x.X", NONE);
        number("\\f x.F X", NONE);
        number("\\f x.f X", NONE);
        number("\\f x y.f x", NONE);
        number("\\f x y.f (f y)", NONE);
        number("\\x.X", NONE);
        number("\\f.f f", NONE);
        number("\\f.\\x.f (\\y.x)", NONE);
        number("K", NONE);
        number("(\\f x.x) X", NONE);
        Scene bad = new Scene().term("0");
        is("number(1)", bad, x -> x.number(1), BAD);
        is("number(-1)", bad, x -> x.number(-1), BAD);
    }

    /** "of F (F (.. X)) how many F. BAD; NONE." */
    private static void numbersByLetters() {
        number("X", 0);
        number("F X", 1);
        number("F (F X)", 2);
        number("F", NONE);
        number("F F", NONE);
        number("F F X", NONE);
        number("F (F F)", NONE);
        number("F X X", NONE);
        number("X X", NONE);
        number("X F", NONE);
        number("F (X X)", NONE);
        number("F (K X)", NONE);
        number("F (\\x.x)", NONE);
        // The most that a SIZE of 500 holds: 6 times 38, 20 and 1.
        Scene some = new Scene().terms("\\x." + many("F(", 38) + "x" + many(")", 38),
                "\\x." + many("F(", 20) + "x" + many(")", 20), "X");
        for (int i = 0; i < 6; i++) {
            int latest = 2 + i;
            some = some.then(x -> x.apply(0, latest), x -> x.step(latest + 1, 0));
        }
        Scene most = some.then(x -> x.apply(1, 8), x -> x.step(9, 0)).term("F").then(x -> x.apply(10, 9));
        is("228 F", most, x -> x.number(8), 228);
        is("248 F", most, x -> x.number(9), 248);
        is("249 F", most, x -> x.number(11), 249);
        is("their SIZE", most, x -> x.size(11), 499);
        is("one more", most, x -> x.apply(10, 11), FULL);
    }

    // ---- Promise 19

    /** "n (0 to 200) at most: the number that it comes to. BAD; NONE ..; STATE: it has not ended behind n; FULL." */
    private static void readAtMost() {
        // A row of I takes as many STEPS to F X.
        int[] rows = {1, 2, 199, 200, 201};
        int[] ns = {0, 1, 2, 198, 199, 200};
        for (int row : rows) {
            for (int n : ns) {
                is(n + " STEPS of a row of " + row, rowOfI(row), x -> x.read(0, n), n < row ? STATE : 1);
            }
        }
        is("n of -1", rowOfI(1), x -> x.read(0, -1), BAD);
        is("n of 201", rowOfI(1), x -> x.read(0, 201), BAD);
        is("n of least", rowOfI(1), x -> x.read(0, LEAST), BAD);
        is("n of most", rowOfI(1), x -> x.read(0, MOST), BAD);
        is("there is no TERM", rowOfI(1), x -> x.read(1, 1), BAD);
        is("TERM -1", rowOfI(1), x -> x.read(-1, 1), BAD);
        Scene none = new Scene().terms("X", "S", "F", "K (K X)", "(\\x.x x x)(\\x.x x x)", "K (\\x.X)", "K X");
        is("X F X", none, x -> x.read(0, 200), NONE);
        is("X F X, no STEP", none, x -> x.read(0, 0), NONE);
        is("S F X", none, x -> x.read(1, 0), NONE);
        is("F F X", none, x -> x.read(2, 0), NONE);
        is("K (K X) F X, no STEP", none, x -> x.read(3, 0), STATE);
        is("K (K X) F X: K X X", none, x -> x.read(3, 1), STATE);
        is("K (K X) F X: X", none, x -> x.read(3, 2), 0);
        is("69 STEPS to 500", none, x -> x.read(4, 69), STATE);
        is("the 70th", none, x -> x.read(4, 70), FULL);
        is("K (\\x.X) F X: X", none, x -> x.read(5, 2), 0);
        is("K X F X: X X", none, x -> x.read(6, 1), NONE);
        // What it comes to is a number in either form of promise 18.
        Scene forms = new Scene().terms("K (K 7)", "K (K (\\f.f))", "K (K 0)", "K (K (\\f.F))");
        is("K (K 7) F X: 7", forms, x -> x.read(0, 2), 7);
        is("K (K (\\f.f)) F X: \\f.f", forms, x -> x.read(1, 2), 1);
        is("K (K 0) F X: 0", forms, x -> x.read(2, 2), 0);
        is("K (K (\\f.F)) F X: \\f.F", forms, x -> x.read(3, 2), NONE);
        for (int n = 0; n <= 20; n++) {
            int want = n;
            Scene term = new Scene().term("" + n);
            is("read of " + n, term, x -> x.read(0, 2), want);
            is("read of " + n + ", one STEP", term, x -> x.read(0, 1), STATE);
        }
    }

    /** With F and X behind it there are 4 NODES more, and 500 at most. */
    private static void readSizes() {
        for (int size = 494; size <= 500; size++) {
            Scene term = new Scene().term(Due.sized(size));
            // \x.t F X: t X, in one STEP; without a LAMBDA NORMAL at once.
            int want = size % 2 == 0 ? STATE : NONE;
            is("a SIZE of " + size + ", no STEP", term, x -> x.read(0, 0), size > 496 ? FULL : want);
            is("a SIZE of " + size + ", 200", term, x -> x.read(0, 200), size > 496 ? FULL : NONE);
        }
        // K (0) t: 0 in 3 STEPS.
        is("SIZE 496 to 0", new Scene().term("K0(" + Due.sized(490) + ")"), x -> x.read(0, 3), 0);
        is("SIZE 497 to none", new Scene().term("K0(" + Due.sized(491) + ")"), x -> x.read(0, 3), FULL);
    }

    /** "(as one that is not kept)" */
    private static void readIsNotKept() {
        Scene some = new Scene().terms("3", "I X").then(x -> x.steps(1, 0, 9), x -> x.typed(0)).tape("K");
        due.is("read changes nothing", some.then(x -> x.read(0, 200)).state(), some.state());
        Scene full = new Scene().term("3").copies(0, 32);
        is("with 32 TERMS", full, x -> x.read(31, 200), 3);
    }

    // ---- Promises 20 and 21

    /** TERM 9 is X with 234 LAMBDAS around it and so many more. */
    private static Scene lambdas(int last) {
        Scene some = new Scene().terms("\\f." + many("\\x.", 39) + "f", "\\f." + many("\\x.", last) + "f", "X");
        for (int i = 0; i < 6; i++) {
            int latest = 2 + i;
            some = some.then(x -> x.apply(0, latest), x -> x.step(latest + 1, 0));
        }
        return some.then(x -> x.apply(1, 8), x -> x.step(9, 0));
    }

    /** "How long the TYPE's CODE is. BAD; NONE: it has none; FULL: above 500." */
    private static void typedLengths() {
        Scene some = new Scene().terms("X", "\\x.x x", "I");
        is("the shortest", some, x -> x.typed(0), 1);
        is("none", some, x -> x.typed(1), NONE);
        is("I", some, x -> x.typed(2), 3);
        is("behind the last", some, x -> x.typed(3), BAD);
        is("before the first", some, x -> x.typed(-1), BAD);
        // n LAMBDAS around X: n ARROWS and n + 1 that stand for any.
        is("248 LAMBDAS", lambdas(14), x -> x.typed(9), 497);
        is("249 LAMBDAS", lambdas(15), x -> x.typed(9), 499);
        is("250 LAMBDAS", lambdas(16), x -> x.typed(9), FULL);
        Scene most = lambdas(15).then(x -> x.typed(9));
        is("the first of 499", most, x -> x.type(0), 0);
        is("the last of 499", most, x -> x.type(498), 250);
        is("behind it", most, x -> x.type(499), BAD);
        // Twice as long each time, far beyond what could be told.
        String pair = "(\\x p.p x x)";
        Scene pairs = new Scene().term("\\z." + many(pair + "(", 30) + "z" + many(")", 30));
        is("thirty pairs", pairs, x -> x.typed(0), FULL);
        Scene none = new Scene().term("\\z." + many(pair + "(", 30) + "z z" + many(")", 30));
        is("none, however long", none, x -> x.typed(0), NONE);
    }

    /** "Number i of the CODE of the latest typed() that was a length. BAD." */
    private static void typeOfTheLatest() {
        is("before any", new Scene(), x -> x.type(0), BAD);
        Scene some = lambdas(16).terms("K", "X", "X X");
        is("behind NONE alone", some.then(x -> x.typed(12)), x -> x.type(0), BAD);
        is("behind FULL alone", some.then(x -> x.typed(9)), x -> x.type(0), BAD);
        is("behind BAD alone", some.then(x -> x.typed(99)), x -> x.type(0), BAD);
        Scene typed = some.then(x -> x.typed(10));
        is("type(0)", typed, x -> x.type(0), 0);
        is("type(4)", typed, x -> x.type(4), 1);
        is("type(5)", typed, x -> x.type(5), BAD);
        is("type(-1)", typed, x -> x.type(-1), BAD);
        is("type(least)", typed, x -> x.type(LEAST), BAD);
        is("type(most)", typed, x -> x.type(MOST), BAD);
        due.is("behind NONE", typed.then(x -> x.typed(12)).type(), "0 1 0 2 1");
        due.is("behind FULL", typed.then(x -> x.typed(9)).type(), "0 1 0 2 1");
        due.is("behind BAD", typed.then(x -> x.typed(13), x -> x.typed(-1)).type(), "0 1 0 2 1");
        due.is("a shorter one", typed.then(x -> x.typed(11)).type(), "1");
        due.is("again behind all these",
                typed.then(x -> x.typed(11), x -> x.typed(12), x -> x.typed(9), x -> x.typed(10)).type(), "0 1 0 2 1");
        due.is("behind drop", typed.then(x -> x.drop(), x -> x.drop(), x -> x.drop()).type(), "0 1 0 2 1");
    }

    /** No typed() hangs on the one before, whatever that came to. */
    private static void typedAgain() {
        String[] texts = {"S", "X", "\\x.x x", "K", "F X", "S S", "F F", "I", many("K", 250), "\\x y z.x z (y z)"};
        // TERM 13 is \x.x (\x.x (.. X)) of 133 such: 266 ARROWS, each the first within the one before.
        Scene some = new Scene().terms(texts).terms("\\a." + many("\\x.x(", 19) + "a" + many(")", 19), "X");
        for (int i = 0; i < 7; i++) {
            int latest = 11 + i;
            some = some.then(x -> x.apply(10, latest), x -> x.step(latest + 1, 0));
        }
        Scene all = some;
        is("6 times 19", all, x -> x.typed(17), 457);
        is("7 times 19", all, x -> x.typed(18), FULL);
        for (int i = 0; i < texts.length; i++) {
            int t = i;
            Scene alone = new Scene().term(texts[t]);
            int length = alone.answer(x -> x.typed(0));
            String type = alone.then(x -> x.typed(0)).type();
            for (int j = 0; j <= 18; j++) {
                int before = j;
                Scene behind = all.then(x -> x.typed(before));
                is("typed " + t + " behind " + before, behind, x -> x.typed(t), length);
                if (length > 0) {
                    due.is("type of " + t + " behind " + before, behind.then(x -> x.typed(t)).type(), type);
                }
            }
        }
    }

    // ---- Promise 22

    /** "0 how many LAMBDAS are around one another at most" */
    private static void aboutLambdas() {
        is("none", new Scene().term("K X"), x -> x.about(0, 0), 0);
        is("one", new Scene().term("\\x.x"), x -> x.about(0, 0), 1);
        is("one beside one", new Scene().term("(\\x.x)(\\x.x)"), x -> x.about(0, 0), 1);
        is("two in the first", new Scene().term("(\\x y.x)(\\x.x)"), x -> x.about(0, 0), 2);
        is("two in the second", new Scene().term("(\\x.x)(\\x y.x)"), x -> x.about(0, 0), 2);
        is("a LAMBDA around both", new Scene().term("\\z.(\\x.x)(\\x y.x)"), x -> x.about(0, 0), 3);
        is("40", new Scene().term(many("\\x.", 40) + "x"), x -> x.about(0, 0), 40);
        is("42 by a NUMBER", new Scene().term(many("\\x.", 40) + "1"), x -> x.about(0, 0), 42);
        is("250", lambdas(16), x -> x.about(9, 0), 250);
    }

    private static void about(String text, int lambda, int variables, int letters, int normal) {
        Scene term = new Scene().term(text);
        is("a LAMBDA in " + text, term, x -> x.about(0, 1), lambda);
        is("VARIABLES in " + text, term, x -> x.about(0, 2), variables);
        is("LETTERS in " + text, term, x -> x.about(0, 3), letters);
        is("NORMAL: " + text, term, x -> x.about(0, 4), normal);
    }

    /** "1 whether it has a LAMBDA, 2 VARIABLES, 3 LETTERS, 4 whether it is NORMAL. BAD." */
    private static void aboutWhat() {
        about("S", 0, 0, 1, 1);
        about("X", 0, 0, 1, 1);
        about("\\x.x", 1, 1, 0, 1);
        about("\\x.X", 1, 0, 1, 1);
        about("\\x.x S", 1, 1, 1, 1);
        about("(\\x.x)(\\x.x x)", 1, 1, 0, 0);
        about("I X", 0, 0, 1, 0);
        about("\\x.F x", 1, 1, 1, 1);
        about(many("\\x.", 40) + "K", 1, 0, 1, 1);
        about("\\x." + many("\\y.", 39) + "x", 1, 1, 0, 1);
        about("\\x." + many("X", 249) + "x", 1, 1, 1, 1);
        Scene term = new Scene().term("K");
        is("about(0, -1)", term, x -> x.about(0, -1), BAD);
        is("about(0, 5)", term, x -> x.about(0, 5), BAD);
        is("about(0, least)", term, x -> x.about(0, LEAST), BAD);
        is("about(0, most)", term, x -> x.about(0, MOST), BAD);
        for (int w = 0; w <= 4; w++) {
            int what = w;
            is("about(1, " + what + ")", term, x -> x.about(1, what), BAD);
            is("about(-1, " + what + ")", term, x -> x.about(-1, what), BAD);
        }
    }

    // ---- Promises 23 and 24

    /** "The latest TERM goes: its number. NONE." */
    private static void dropToNone() {
        is("none is there", new Scene(), x -> x.drop(), NONE);
        Scene one = new Scene().term("K");
        is("the only one", one, x -> x.drop(), 0);
        is("none is left", one.then(LambdaShelf::drop), x -> x.drop(), NONE);
        is("its number comes again", one.then(LambdaShelf::drop).tape("S"), x -> x.term(), 0);
        due.is("for another", one.then(LambdaShelf::drop).term("S").text(0), "S");
        Scene all = new Scene().terms("K", "S").copies(0, 32);
        is("the 32nd", all, x -> x.drop(), 31);
        is("the 31st", all.then(LambdaShelf::drop), x -> x.drop(), 30);
        is("the others stay", all.then(LambdaShelf::drop), x -> x.count(0), 31);
        due.is("as they were", all.then(LambdaShelf::drop).text(1), "S");
        Scene turned = new Scene().terms("K", "I X", "S").then(x -> x.step(1, 0));
        is("the latest is the last that came", turned, x -> x.drop(), 2);
    }

    /** "How many: 0 TERMS, 1 bytes on THE TAPE, 2 NODES of all TERMS. BAD." */
    private static void countMost() {
        Scene most = new Scene().term(Due.sized(500)).copies(0, 32).tape(many("K", 600));
        is("32 TERMS", most, x -> x.count(0), 32);
        is("600 bytes", most, x -> x.count(1), 600);
        is("16000 NODES", most, x -> x.count(2), 16000);
        is("15500 NODES", most.then(LambdaShelf::drop), x -> x.count(2), 15500);
        is("behind a STEP", new Scene().terms("K", "I X").then(x -> x.step(1, 0)), x -> x.count(2), 2);
        is("count(-1)", most, x -> x.count(-1), BAD);
        is("count(3)", most, x -> x.count(3), BAD);
        is("count(least)", most, x -> x.count(LEAST), BAD);
        is("count(most)", most, x -> x.count(MOST), BAD);
    }
}
