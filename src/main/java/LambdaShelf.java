/**
 * A shelf of terms of functions: read from text, told back, turned one step at a time from outside
 * or from inside, to a head, to the end by fuel; their names taken out by three letters that do the
 * same; numbers read from what they come to; the simplest type that each has.
 *
 * A TERM is held as its CODE, front first: a part of a TERM is then a run of cells, and nothing
 * here has to call itself, however deep a TERM is.
 */
public final class LambdaShelf {
    public static final int BAD = -1, STATE = -2, FULL = -3, NONE = -4;

    private static final int MOST_TERMS = 32;
    private static final int MOST_NODES = 500;
    private static final int MOST_BYTES = 600;
    private static final int MOST_STEPS = 200;
    private static final int FED_BYTES = 20;
    private static final int FIRST_FAULT = -10;

    private static final int APPLY = 0, LAMBDA = 1, S = 2, K = 3, I = 4, F = 5, X = 6, VARIABLE = 10;
    private static final String LETTERS = "SKIFX";

    private static final int FROM_OUTSIDE = 0, FROM_INSIDE = 1, AT_HEAD = 2, SHORTENING = 3;

    private static final int NO_MORE = 0, ALL_DONE = 1, WAS_FULL = 2;

    private final Tape tape = new Tape();
    private final Code[] terms = new Code[MOST_TERMS];
    private final Code trial = new Code(MOST_NODES);
    private final Shape shape = new Shape();
    private final Reader reader = new Reader(tape);
    private final Teller teller = new Teller();
    private final Turner turner = new Turner(shape);
    private Abstracter abstracter;
    private Typer typer;
    private int many;
    private int latestFault;
    private int latestEnding;
    private int latestGreatest;

    public LambdaShelf() {
    }

    public int feed(int a, int b, int c, int d, int e) {
        if (tape.length + FED_BYTES > MOST_BYTES) {
            return FULL;
        }
        tape.putFour(a);
        tape.putFour(b);
        tape.putFour(c);
        tape.putFour(d);
        tape.putFour(e);
        return tape.length;
    }

    public int end(int n) {
        if (n < 0 || n > tape.length) {
            return BAD;
        }
        int had = tape.length;
        tape.length = n;
        return had;
    }

    public int term() {
        Code fresh = freshTerm();
        if (fresh == null) {
            return FULL;
        }
        latestFault = reader.readInto(fresh);
        tape.length = 0;
        return latestFault == 0 ? keepFresh() : FIRST_FAULT - reader.faultPlace;
    }

    public int fault() {
        return latestFault;
    }

    public int size(int t) {
        Code found = termAt(t);
        return found == null ? BAD : found.length;
    }

    public int code(int t, int i) {
        Code found = termAt(t);
        return found == null ? BAD : found.at(i);
    }

    public int letter(int t, int i) {
        Code found = termAt(t);
        return found == null ? BAD : teller.byteOf(found, i);
    }

    public int apply(int t, int u) {
        Code first = termAt(t);
        Code second = termAt(u);
        if (first == null || second == null) {
            return BAD;
        }
        Code fresh = freshTerm();
        if (fresh == null) {
            return FULL;
        }
        fresh.put(APPLY);
        fresh.putAll(first);
        fresh.putAll(second);
        return fresh.over ? FULL : keepFresh();
    }

    public int copy(int t) {
        Code found = termAt(t);
        if (found == null) {
            return BAD;
        }
        Code fresh = freshTerm();
        if (fresh == null) {
            return FULL;
        }
        fresh.putAll(found);
        return keepFresh();
    }

    public int same(int t, int u) {
        Code first = termAt(t);
        Code second = termAt(u);
        if (first == null || second == null) {
            return BAD;
        }
        return first.isLike(second) ? 1 : 0;
    }

    public int step(int t, int way) {
        Code found = termAt(t);
        return found == null || !isWay(way) ? BAD : turner.turn(found, way);
    }

    public int steps(int t, int way, int n) {
        Code found = termAt(t);
        if (found == null || !isWay(way) || !isFuel(n)) {
            return BAD;
        }
        latestGreatest = 0;
        latestEnding = ALL_DONE;
        for (int done = 0; done < n; done++) {
            int answer = turner.turn(found, way);
            if (answer != 1) {
                latestEnding = answer == FULL ? WAS_FULL : NO_MORE;
                return done;
            }
            latestGreatest = Math.max(latestGreatest, found.length);
        }
        return n;
    }

    public int told(int what) {
        switch (what) {
            case 0:
                return latestEnding;
            case 1:
                return latestGreatest;
            default:
                return BAD;
        }
    }

    public int redex(int t, int way) {
        Code found = termAt(t);
        return found == null || !isWay(way) ? BAD : turner.place(found, way);
    }

    public int redexes(int t) {
        Code found = termAt(t);
        return found == null ? BAD : turner.howMany(found);
    }

    public int abstracted(int t) {
        Code found = termAt(t);
        if (found == null) {
            return BAD;
        }
        Code fresh = freshTerm();
        if (fresh == null) {
            return FULL;
        }
        if (abstracter == null) {
            abstracter = new Abstracter(shape);
        }
        return abstracter.abstractInto(found, fresh) ? keepFresh() : FULL;
    }

    public int number(int t) {
        Code found = termAt(t);
        return found == null ? BAD : numberOf(found);
    }

    public int read(int t, int n) {
        Code found = termAt(t);
        if (found == null || !isFuel(n)) {
            return BAD;
        }
        putTrial(found);
        int answer = trial.over ? FULL : 1;
        for (int done = 0; done < n && answer == 1; done++) {
            answer = turner.turn(trial, FROM_OUTSIDE);
        }
        if (answer == FULL) {
            return FULL;
        }
        return turner.place(trial, FROM_OUTSIDE) == NONE ? numberOf(trial) : STATE;
    }

    public int typed(int t) {
        Code found = termAt(t);
        if (found == null) {
            return BAD;
        }
        if (typer == null) {
            typer = new Typer(shape);
        }
        return typer.lengthOfType(found);
    }

    public int type(int i) {
        return typer == null ? BAD : typer.latest.at(i);
    }

    public int about(int t, int what) {
        Code found = termAt(t);
        if (found == null) {
            return BAD;
        }
        switch (what) {
            case 0:
                return shape.deepest(found);
            case 1:
                return found.hasCell(LAMBDA, LAMBDA) ? 1 : 0;
            case 2:
                return found.hasCell(VARIABLE, VARIABLE + MOST_NODES) ? 1 : 0;
            case 3:
                return found.hasCell(S, X) ? 1 : 0;
            case 4:
                return turner.place(found, FROM_OUTSIDE) == NONE ? 1 : 0;
            default:
                return BAD;
        }
    }

    public int drop() {
        if (many == 0) {
            return NONE;
        }
        many--;
        return many;
    }

    public int count(int what) {
        switch (what) {
            case 0:
                return many;
            case 1:
                return tape.length;
            case 2:
                return allNodes();
            default:
                return BAD;
        }
    }

    private Code termAt(int t) {
        return t >= 0 && t < many && t < terms.length ? terms[t] : null;
    }

    /** A row that is no TERM before keepFresh(), so what is refused leaves no trace; null: FULL. */
    private Code freshTerm() {
        if (many < 0 || many >= terms.length) {
            return null;
        }
        Code fresh = terms[many];
        if (fresh == null) {
            fresh = new Code(MOST_NODES);
            terms[many] = fresh;
        }
        fresh.clear();
        return fresh;
    }

    private int keepFresh() {
        many++;
        return many - 1;
    }

    private int allNodes() {
        int nodes = 0;
        for (int t = 0; t < many; t++) {
            Code found = termAt(t);
            nodes += found == null ? 0 : found.length;
        }
        return nodes;
    }

    private void putTrial(Code t) {
        trial.clear();
        trial.put(APPLY);
        trial.put(APPLY);
        trial.putAll(t);
        trial.put(F);
        trial.put(X);
    }

    private static boolean isWay(int way) {
        return way >= FROM_OUTSIDE && way <= SHORTENING;
    }

    private static boolean isFuel(int n) {
        return n >= 0 && n <= MOST_STEPS;
    }

    private static int numberOf(Code t) {
        if (t.at(0) != LAMBDA) {
            return chainLength(t, 0, F, X);
        }
        if (t.at(1) == LAMBDA) {
            return chainLength(t, 2, VARIABLE + 1, VARIABLE);
        }
        return t.at(1) == VARIABLE ? 1 : NONE;
    }

    private static int chainLength(Code t, int start, int link, int last) {
        int place = start;
        while (place < t.length && t.at(place) == APPLY && t.at(place + 1) == link) {
            place += 2;
        }
        return t.at(place) == last && place + 1 == t.length ? (place - start) / 2 : NONE;
    }

    /** THE TAPE; what stands at its length and behind is left over and is never looked at. */
    private static final class Tape {
        private final int[] bytes = new int[MOST_BYTES];
        private int length;

        void putFour(int four) {
            for (int shift = 24; shift >= 0; shift -= 8) {
                if (length < bytes.length) {
                    bytes[length] = (four >>> shift) & 255;
                    length++;
                }
            }
        }

        int at(int place) {
            return place >= 0 && place < length && place < bytes.length ? bytes[place] : BAD;
        }
    }

    /** A CODE in a row of a fixed room, so that turning it again and again makes no new rows. */
    private static final class Code {
        private final int[] cells;
        private int length;
        private boolean over;

        Code(int room) {
            cells = new int[Math.max(room, 0)];
        }

        int at(int i) {
            return i >= 0 && i < length && i < cells.length ? cells[i] : BAD;
        }

        void clear() {
            length = 0;
            over = false;
        }

        void put(int cell) {
            if (length >= 0 && length < cells.length) {
                cells[length] = cell;
                length++;
            } else {
                over = true;
            }
        }

        void putPart(Code from, int start, int end) {
            boolean there = start >= 0 && start <= end && end <= from.length;
            if (!there || end - start > cells.length - length) {
                over = true;
                return;
            }
            System.arraycopy(from.cells, start, cells, length, end - start);
            length += end - start;
        }

        void putAll(Code from) {
            putPart(from, 0, from.length);
        }

        /** Another part for the one from start to end; false, and nothing changed: no room. */
        boolean replacePart(int start, int end, Code part) {
            boolean there = start >= 0 && start <= end && end <= length;
            int grown = length - (end - start) + part.length;
            if (!there || part.over || grown > cells.length) {
                return false;
            }
            System.arraycopy(cells, end, cells, start + part.length, length - end);
            System.arraycopy(part.cells, 0, cells, start, part.length);
            length = grown;
            return true;
        }

        boolean isLike(Code other) {
            if (length != other.length) {
                return false;
            }
            for (int i = 0; i < length; i++) {
                if (at(i) != other.at(i)) {
                    return false;
                }
            }
            return true;
        }

        boolean hasCell(int least, int most) {
            for (int i = 0; i < length; i++) {
                if (at(i) >= least && at(i) <= most) {
                    return true;
                }
            }
            return false;
        }

        int endFrom(int start) {
            int due = 1;
            int place = start;
            while (due > 0 && place < length) {
                int cell = at(place);
                if (cell == APPLY) {
                    due++;
                } else if (cell != LAMBDA) {
                    due--;
                }
                place++;
            }
            return place;
        }
    }

    /**
     * Where each part of a CODE ends and how many LAMBDAS are around it, found in two passes: asked
     * for part by part, both would be counted over and over.
     */
    private static final class Shape {
        private final int[] ends = new int[Abstracter.MOST_BODY];
        private final int[] depths = new int[Abstracter.MOST_BODY];

        /** The part from start to end of a CODE; LAMBDAS around the whole of it do not count. */
        void measure(Code t, int start, int end) {
            int last = Math.min(end, ends.length) - 1;
            for (int place = last; place >= Math.max(start, 0); place--) {
                ends[place] = endBy(t.at(place), place);
            }
            putDepth(start, 0);
            for (int place = start; place <= last; place++) {
                spreadDepth(t.at(place), place);
            }
        }

        int endOf(int place) {
            return place >= 0 && place < ends.length ? ends[place] : place;
        }

        int depthOf(int place) {
            return place >= 0 && place < depths.length ? depths[place] : 0;
        }

        /** The depth of the LAMBDA that binds a VARIABLE; below 0: outside of what was measured. */
        int binderDepth(int cell, int place) {
            return depthOf(place) - 1 - (cell - VARIABLE);
        }

        int deepest(Code t) {
            measure(t, 0, t.length);
            int most = 0;
            for (int place = 0; place < t.length; place++) {
                most = Math.max(most, depthOf(place));
            }
            return most;
        }

        private int endBy(int cell, int place) {
            if (cell == LAMBDA) {
                return endOf(place + 1);
            }
            return cell == APPLY ? endOf(endOf(place + 1)) : place + 1;
        }

        private void spreadDepth(int cell, int place) {
            if (cell == LAMBDA) {
                putDepth(place + 1, depthOf(place) + 1);
            } else if (cell == APPLY) {
                putDepth(place + 1, depthOf(place));
                putDepth(endOf(place + 1), depthOf(place));
            }
        }

        private void putDepth(int place, int depth) {
            if (place >= 0 && place < depths.length) {
                depths[place] = depth;
            }
        }
    }

    /**
     * Reads THE TAPE. How many APPLY NODES stand in front of a row of parts is known only behind
     * the row, so ITEMS come first (one at most for a TOKEN), and the CODE from them.
     */
    private static final class Reader {
        private static final int NO_TOKEN = 1, MISPLACED = 2, UNBOUND = 3, TOO_DEEP = 4, TOO_LONG = 5;
        private static final int END = 0, NAME = 1, NUMBER = 2, LETTER = 3, SIGN = 4;
        private static final int MOST_OPEN = 40;
        private static final int LONGEST_NAME = 8, LONGEST_NUMBER = 2, GREATEST_NUMBER = 20;
        private static final int FIRST_NUMBER = 1000;
        private static final int PARENTHESIS = -1;
        private static final int NOT_IN_HEAD = 0, BEHIND_BACKSLASH = 1, BEHIND_NAME = 2;

        // A row of parts is the number of its parts below 0, a NUMBER is FIRST_NUMBER and itself,
        // all else is its cell of the CODE.
        private final int[] items = new int[MOST_BYTES + 1];
        private final int[] openNames = new int[MOST_OPEN];
        private final int[] rowsAround = new int[MOST_OPEN];
        private final Tape tape;
        private int itemCount;
        private int row;
        private int open;
        private int inHead;
        private int kind;
        private int start;
        private int next;
        private int fault;
        private int faultPlace;

        Reader(Tape tape) {
            this.tape = tape;
        }

        /** The FAULT of THE TAPE, or 0: then the CODE is its TERM. */
        int readInto(Code out) {
            itemCount = 0;
            open = 0;
            inHead = NOT_IN_HEAD;
            next = 0;
            fault = 0;
            faultPlace = 0;
            startRow();
            takeTokens();
            if (fault == 0) {
                putItems(out);
            }
            return fault;
        }

        private void takeTokens() {
            kind = SIGN;
            for (int taken = 0; taken <= MOST_BYTES && kind != END && fault == 0; taken++) {
                findToken();
                if (fault == 0) {
                    takeToken();
                }
            }
        }

        private void findToken() {
            while (next < tape.length && tape.at(next) == ' ') {
                next++;
            }
            start = next;
            int first = tape.at(start);
            if (start >= tape.length) {
                kind = END;
            } else if (isSmall(first)) {
                findName();
            } else if (isFigure(first)) {
                findNumber();
            } else if (LETTERS.indexOf((char) first) >= 0) {
                kind = LETTER;
                next++;
            } else if (first == '(' || first == ')' || first == '\\' || first == '.') {
                kind = SIGN;
                next++;
            } else {
                fail(NO_TOKEN);
            }
        }

        private void findName() {
            kind = NAME;
            while (next < tape.length && isSmall(tape.at(next))) {
                next++;
            }
            if (next - start > LONGEST_NAME) {
                fail(NO_TOKEN);
            }
        }

        private void findNumber() {
            kind = NUMBER;
            while (next < tape.length && isFigure(tape.at(next))) {
                next++;
            }
            if (next - start > LONGEST_NUMBER || numberRead() > GREATEST_NUMBER) {
                fail(NO_TOKEN);
            }
        }

        private int numberRead() {
            int first = tape.at(start) - '0';
            return next - start == 1 ? first : first * 10 + tape.at(start + 1) - '0';
        }

        private void takeToken() {
            if (inHead != NOT_IN_HEAD) {
                takeInHead();
                return;
            }
            switch (kind) {
                case NAME:
                    takeVariable();
                    break;
                case NUMBER:
                    takePart(FIRST_NUMBER + numberRead());
                    break;
                case LETTER:
                    takePart(LETTERS.indexOf((char) tape.at(start)) + S);
                    break;
                case SIGN:
                    takeSign(tape.at(start));
                    break;
                default:
                    takeEnd();
            }
        }

        private void takeInHead() {
            if (kind == NAME) {
                openUp(start);
                putItem(LAMBDA);
                inHead = BEHIND_NAME;
            } else if (inHead == BEHIND_NAME && kind == SIGN && tape.at(start) == '.') {
                inHead = NOT_IN_HEAD;
                startRow();
            } else {
                fail(MISPLACED);
            }
        }

        private void takeSign(int sign) {
            if (sign == '(') {
                countPart();
                openUp(PARENTHESIS);
                startRow();
            } else if (sign == '\\') {
                countPart();
                inHead = BEHIND_BACKSLASH;
            } else if (sign == ')') {
                closeParenthesis();
            } else {
                fail(MISPLACED);
            }
        }

        private void takeVariable() {
            int between = 0;
            for (int i = open - 1; i >= 0; i--) {
                if (i < openNames.length && openNames[i] != PARENTHESIS) {
                    if (isNameAt(openNames[i])) {
                        takePart(VARIABLE + between);
                        return;
                    }
                    between++;
                }
            }
            fail(UNBOUND);
        }

        private boolean isNameAt(int place) {
            int width = next - start;
            for (int i = 0; i < width; i++) {
                if (tape.at(place + i) != tape.at(start + i)) {
                    return false;
                }
            }
            return !isSmall(tape.at(place + width));
        }

        private void takePart(int item) {
            countPart();
            putItem(item);
        }

        private void takeEnd() {
            if (isRowEmpty() || innermostParenthesis() >= 0) {
                fail(MISPLACED);
            }
        }

        private void closeParenthesis() {
            int opened = innermostParenthesis();
            if (isRowEmpty() || opened < 0 || opened >= rowsAround.length) {
                fail(MISPLACED);
                return;
            }
            open = opened;
            row = rowsAround[opened];
        }

        private int innermostParenthesis() {
            for (int i = open - 1; i >= 0; i--) {
                if (i < openNames.length && openNames[i] == PARENTHESIS) {
                    return i;
                }
            }
            return NONE;
        }

        private void openUp(int name) {
            if (open < 0 || open >= MOST_OPEN) {
                fail(TOO_DEEP);
                return;
            }
            openNames[open] = name;
            rowsAround[open] = row;
            open++;
        }

        private void startRow() {
            row = itemCount;
            putItem(0);
        }

        private boolean isRowEmpty() {
            return row < 0 || row >= items.length || items[row] == 0;
        }

        private void countPart() {
            if (row >= 0 && row < items.length) {
                items[row]--;
            }
        }

        private void putItem(int item) {
            if (itemCount >= 0 && itemCount < items.length) {
                items[itemCount] = item;
                itemCount++;
            }
        }

        private void putItems(Code out) {
            for (int i = 0; i < itemCount && i < items.length && !out.over; i++) {
                putItemCode(items[i], out);
            }
            if (out.over) {
                fault = TOO_LONG;
            }
        }

        private static void putItemCode(int item, Code out) {
            if (item < 0) {
                for (int parts = -item; parts > 1; parts--) {
                    out.put(APPLY);
                }
            } else if (item >= FIRST_NUMBER) {
                putNumber(item - FIRST_NUMBER, out);
            } else {
                out.put(item);
            }
        }

        private static void putNumber(int n, Code out) {
            out.put(LAMBDA);
            out.put(LAMBDA);
            for (int i = 0; i < n; i++) {
                out.put(APPLY);
                out.put(VARIABLE + 1);
            }
            out.put(VARIABLE);
        }

        private void fail(int which) {
            fault = which;
            faultPlace = start;
        }

        private static boolean isSmall(int letter) {
            return letter >= 'a' && letter <= 'z';
        }

        private static boolean isFigure(int figure) {
            return figure >= '0' && figure <= '9';
        }
    }

    /** Tells a TERM's text byte by byte and keeps the one that is wanted: no text is ever held. */
    private static final class Teller {
        private static final int IN_FIRST = 0, IN_SECOND = 1, IN_LAMBDA = 2, WRAPPED = 4;
        private static final int ALPHABET = 26;

        private final int[] around = new int[MOST_NODES];
        private int aroundCount;
        private int depth;
        private int wanted;
        private int told;
        private int found;

        int byteOf(Code t, int i) {
            aroundCount = 0;
            depth = 0;
            wanted = i;
            told = 0;
            found = BAD;
            for (int place = 0; place < t.length && found == BAD; place++) {
                tellNode(t.at(place));
            }
            return wanted == told && found == BAD ? 0 : found;
        }

        private void tellNode(int cell) {
            int wrapped = isWrapped(cell) ? WRAPPED : 0;
            if (wrapped != 0) {
                tell('(');
            }
            if (cell == APPLY) {
                goInto(IN_FIRST | wrapped);
            } else if (cell == LAMBDA) {
                tell('\\');
                tellName(depth);
                tell('.');
                depth++;
                goInto(IN_LAMBDA | wrapped);
            } else {
                tellLeaf(cell);
                leaveEnded();
            }
        }

        private boolean isWrapped(int cell) {
            if (aroundCount <= 0 || aroundCount > around.length) {
                return false;
            }
            int within = around[aroundCount - 1] & ~WRAPPED;
            return within == IN_FIRST && cell == LAMBDA
                    || within == IN_SECOND && (cell == LAMBDA || cell == APPLY);
        }

        private void goInto(int within) {
            if (aroundCount >= 0 && aroundCount < around.length) {
                around[aroundCount] = within;
                aroundCount++;
            }
        }

        private void leaveEnded() {
            for (int i = Math.min(aroundCount, around.length) - 1; i >= 0; i--) {
                int within = around[i] & ~WRAPPED;
                if (within == IN_FIRST) {
                    tell(' ');
                    around[i] |= IN_SECOND;
                    return;
                }
                if (within == IN_LAMBDA) {
                    depth--;
                }
                if ((around[i] & WRAPPED) != 0) {
                    tell(')');
                }
                aroundCount = i;
            }
        }

        private void tellLeaf(int cell) {
            if (cell >= VARIABLE) {
                tellName(depth - 1 - (cell - VARIABLE));
            } else if (cell >= S && cell <= X) {
                tell(LETTERS.charAt(cell - S));
            }
        }

        /** Two letters are enough: a TERM has fewer LAMBDAS than there are such names. */
        private void tellName(int level) {
            if (level >= ALPHABET) {
                tell('a' + level / ALPHABET - 1);
            }
            tell('a' + level % ALPHABET);
        }

        private void tell(int letter) {
            if (told == wanted) {
                found = letter;
            }
            told++;
        }
    }

    /** Finds REDEXES and turns them. */
    private static final class Turner {
        private static final int NO_RULE = -1;

        private final Shape shape;
        private final Code made = new Code(MOST_NODES);

        Turner(Shape shape) {
            this.shape = shape;
        }

        int howMany(Code t) {
            int found = 0;
            for (int place = 0; place < t.length; place++) {
                if (ruleAt(t, place) != NO_RULE) {
                    found++;
                }
            }
            return found;
        }

        int place(Code t, int way) {
            switch (way) {
                case FROM_OUTSIDE:
                    return firstPlace(t);
                case FROM_INSIDE:
                    return innerPlace(t);
                case AT_HEAD:
                    return headPlace(t);
                default:
                    return shorterPlace(t);
            }
        }

        int turn(Code t, int way) {
            int place = place(t, way);
            if (place < 0) {
                return 0;
            }
            int end = t.endFrom(place);
            shape.measure(t, place, end);
            made.clear();
            if (way == SHORTENING) {
                putBody(t, place + 2, shape.endOf(place + 2), end);
            } else {
                putTurned(t, place, end);
            }
            return t.replacePart(place, end, made) ? 1 : FULL;
        }

        private int firstPlace(Code t) {
            for (int place = 0; place < t.length; place++) {
                if (ruleAt(t, place) != NO_RULE) {
                    return place;
                }
            }
            return NONE;
        }

        /** A REDEX has one within it just if the next one in the CODE stands before its end. */
        private int innerPlace(Code t) {
            shape.measure(t, 0, t.length);
            int latest = NONE;
            for (int place = 0; place < t.length; place++) {
                if (ruleAt(t, place) != NO_RULE) {
                    if (latest >= 0 && place >= shape.endOf(latest)) {
                        return latest;
                    }
                    latest = place;
                }
            }
            return latest;
        }

        private int headPlace(Code t) {
            for (int place = 0; place < t.length && t.at(place) == APPLY; place++) {
                if (ruleAt(t, place) != NO_RULE) {
                    return place;
                }
            }
            return NONE;
        }

        private int shorterPlace(Code t) {
            shape.measure(t, 0, t.length);
            for (int place = 0; place < t.length; place++) {
                if (isShortened(t, place)) {
                    return place;
                }
            }
            return NONE;
        }

        private boolean isShortened(Code t, int place) {
            if (t.at(place) != LAMBDA || t.at(place + 1) != APPLY) {
                return false;
            }
            int second = shape.endOf(place + 2);
            return t.at(second) == VARIABLE && !isBoundIn(t, place + 2, second, shape.depthOf(place));
        }

        private boolean isBoundIn(Code t, int start, int end, int depth) {
            for (int place = start; place < end; place++) {
                int cell = t.at(place);
                if (cell >= VARIABLE && shape.binderDepth(cell, place) == depth) {
                    return true;
                }
            }
            return false;
        }

        /** The cell by which a REDEX turns, if the NODE is the outer one of a REDEX. */
        private static int ruleAt(Code t, int place) {
            if (t.at(place) != APPLY) {
                return NO_RULE;
            }
            int first = t.at(place + 1);
            if (first == LAMBDA || first == I) {
                return first;
            }
            if (first != APPLY) {
                return NO_RULE;
            }
            int second = t.at(place + 2);
            if (second == K) {
                return K;
            }
            return second == APPLY && t.at(place + 3) == S ? S : NO_RULE;
        }

        private void putTurned(Code t, int place, int end) {
            switch (ruleAt(t, place)) {
                case LAMBDA:
                    putBody(t, place + 2, shape.endOf(place + 2), end);
                    break;
                case I:
                    made.putPart(t, place + 2, end);
                    break;
                case K:
                    made.putPart(t, place + 3, shape.endOf(place + 3));
                    break;
                default:
                    putShared(t, place + 4, end);
            }
        }

        private void putShared(Code t, int start, int end) {
            int second = shape.endOf(start);
            int third = shape.endOf(second);
            made.put(APPLY);
            made.put(APPLY);
            made.putPart(t, start, second);
            made.putPart(t, third, end);
            made.put(APPLY);
            made.putPart(t, second, third);
            made.putPart(t, third, end);
        }

        /**
         * What a LAMBDA that goes is around, from start to end; what comes for its VARIABLE stands
         * from there to argumentEnd. That LAMBDA is the outermost of what was measured.
         */
        private void putBody(Code t, int start, int end, int argumentEnd) {
            for (int place = start; place < end && !made.over; place++) {
                int cell = t.at(place);
                int binder = cell >= VARIABLE ? shape.binderDepth(cell, place) : 1;
                if (binder == 0) {
                    putRaised(t, end, argumentEnd, shape.depthOf(place) - 1);
                } else {
                    made.put(binder < 0 ? cell - 1 : cell);
                }
            }
        }

        private void putRaised(Code t, int start, int end, int by) {
            for (int place = start; place < end && !made.over; place++) {
                int cell = t.at(place);
                boolean isFree = cell >= VARIABLE && shape.binderDepth(cell, place) < 0;
                made.put(isFree ? cell + by : cell);
            }
        }
    }

    /**
     * Takes the LAMBDAS out of a TERM, the last in the CODE first: what such a one is around has no
     * LAMBDA any more and stands at the front of what is held.
     */
    private static final class Abstracter {
        // Without its LAMBDA a part is at most 2 NODES shorter, so a longer one stays too long.
        private static final int MOST_BODY = MOST_NODES + 2;
        // For the same reason: this much less 2 for each LAMBDA that may come is still too long.
        private static final int MOST_HELD = 3 * MOST_NODES;

        private final Shape shape;
        private final int[] held = new int[MOST_HELD];
        private final int[] met = new int[MOST_BODY + 1];
        private final Code body = new Code(MOST_BODY);
        private final Code made = new Code(MOST_NODES);
        private int front;

        Abstracter(Shape shape) {
            this.shape = shape;
        }

        /** false: FULL. */
        boolean abstractInto(Code t, Code out) {
            front = MOST_HELD;
            boolean fits = true;
            for (int place = t.length - 1; place >= 0 && fits; place--) {
                int cell = t.at(place);
                fits = cell == LAMBDA ? takeLambdaOut() : hold(cell);
            }
            for (int place = front; place < MOST_HELD && fits && !out.over; place++) {
                out.put(heldAt(place));
            }
            return fits && !out.over;
        }

        private int heldAt(int place) {
            return place >= 0 && place < held.length ? held[place] : BAD;
        }

        private boolean hold(int cell) {
            if (front <= 0 || front > held.length) {
                return false;
            }
            front--;
            held[front] = cell;
            return true;
        }

        private boolean takeLambdaOut() {
            unholdBody();
            if (body.over) {
                return false;
            }
            shape.measure(body, 0, body.length);
            countMet();
            putAbstracted();
            boolean fits = !made.over;
            for (int i = made.length - 1; i >= 0 && fits; i--) {
                fits = hold(made.at(i));
            }
            return fits;
        }

        private void unholdBody() {
            body.clear();
            int due = 1;
            while (due > 0 && front < MOST_HELD && !body.over) {
                int cell = heldAt(front);
                due += cell == APPLY ? 1 : -1;
                body.put(cell);
                front++;
            }
        }

        private void countMet() {
            int many = 0;
            for (int place = 0; place < body.length && place + 1 < met.length; place++) {
                met[place] = many;
                many += body.at(place) == VARIABLE ? 1 : 0;
                met[place + 1] = many;
            }
        }

        private boolean isMet(int start, int end) {
            return start >= 0 && start <= end && end < met.length && met[end] > met[start];
        }

        /** S comes in front of both that it shares to, so one way through the body is enough. */
        private void putAbstracted() {
            made.clear();
            int place = 0;
            while (place < body.length && !made.over) {
                int end = Math.max(shape.endOf(place), place + 1);
                if (!isMet(place, end)) {
                    made.put(APPLY);
                    made.put(K);
                    putLowered(place, end);
                } else if (body.at(place) != APPLY) {
                    made.put(I);
                } else if (body.at(end - 1) == VARIABLE && shape.endOf(place + 1) == end - 1
                        && !isMet(place + 1, end - 1)) {
                    putLowered(place + 1, end - 1);
                } else {
                    made.put(APPLY);
                    made.put(APPLY);
                    made.put(S);
                    end = place + 1;
                }
                place = end;
            }
        }

        private void putLowered(int start, int end) {
            for (int place = start; place < end; place++) {
                int cell = body.at(place);
                made.put(cell > VARIABLE ? cell - 1 : cell);
            }
        }
    }

    /**
     * Finds TYPES in a graph whose NODES are joined when they must be one. Arrows are joined before
     * their sides are looked at, so this ends on circles too; they are looked for when all is known.
     */
    private static final class Typer {
        // An S brings 9 and an APPLY 2, and no TERM has more than 250 of the one, 249 of the other.
        private static final int ROOM = 2800;
        private static final int ANY = -1;

        private final Shape shape;
        private final int[] froms = new int[ROOM];
        private final int[] tos = new int[ROOM];
        private final int[] links = new int[ROOM];
        private final int[] queue = new int[ROOM];
        private final int[] marks = new int[ROOM];
        private final int[] binders = new int[MOST_NODES];
        private final int[] waiting = new int[MOST_NODES + 1];
        private final Code made = new Code(MOST_NODES);
        private final Code latest = new Code(MOST_NODES);
        private int nodes;
        private int waitingCount;
        private int shared;

        Typer(Shape shape) {
            this.shape = shape;
        }

        /** The length of the TYPE, which is then the latest; NONE and FULL leave the latest. */
        int lengthOfType(Code t) {
            nodes = 0;
            waitingCount = 0;
            shape.measure(t, 0, t.length);
            int whole = any();
            shared = any();
            await(whole);
            for (int place = 0; place < t.length; place++) {
                typeNode(t.at(place), place, nextWaiting());
            }
            if (hasCircle()) {
                return NONE;
            }
            tellType(whole);
            if (made.over) {
                return FULL;
            }
            latest.clear();
            latest.putAll(made);
            return latest.length;
        }

        private void typeNode(int cell, int place, int due) {
            if (cell == APPLY) {
                typeApply(due);
            } else if (cell == LAMBDA) {
                joinAll(due, typeOfLambda(shape.depthOf(place)));
            } else if (cell >= VARIABLE) {
                joinAll(due, at(binders, shape.binderDepth(cell, place)));
            } else {
                joinAll(due, typeOfLetter(cell));
            }
        }

        private void typeApply(int due) {
            int argument = any();
            await(argument);
            await(arrow(argument, due));
        }

        private int typeOfLambda(int depth) {
            int bound = any();
            int result = any();
            set(binders, depth, bound);
            await(result);
            return arrow(bound, result);
        }

        private int typeOfLetter(int cell) {
            switch (cell) {
                case S:
                    return typeOfS(any(), any(), any());
                case K:
                    return typeOfK(any(), any());
                case I:
                    return typeOfI(any());
                case F:
                    return typeOfI(shared);
                default:
                    return shared;
            }
        }

        private int typeOfK(int a, int b) {
            return arrow(a, arrow(b, a));
        }

        private int typeOfI(int a) {
            return arrow(a, a);
        }

        private int typeOfS(int a, int b, int c) {
            int first = arrow(a, arrow(b, c));
            return arrow(first, arrow(arrow(a, b), arrow(a, c)));
        }

        private int any() {
            return arrow(ANY, ANY);
        }

        private int arrow(int from, int to) {
            int node = Math.min(nodes, ROOM - 1);
            set(froms, node, from);
            set(tos, node, to);
            set(links, node, node);
            nodes = node + 1;
            return node;
        }

        private static int at(int[] cells, int place) {
            return place >= 0 && place < cells.length ? cells[place] : 0;
        }

        private static void set(int[] cells, int place, int cell) {
            if (place >= 0 && place < cells.length) {
                cells[place] = cell;
            }
        }

        private void await(int node) {
            if (waitingCount >= 0 && waitingCount < waiting.length) {
                waiting[waitingCount] = node;
                waitingCount++;
            }
        }

        private int nextWaiting() {
            if (waitingCount <= 0 || waitingCount > waiting.length) {
                return 0;
            }
            waitingCount--;
            return waiting[waitingCount];
        }

        private int rootOf(int node) {
            int root = node;
            for (int hops = 0; hops < ROOM && at(links, root) != root; hops++) {
                set(links, root, at(links, at(links, root)));
                root = at(links, root);
            }
            return root;
        }

        private boolean isArrow(int node) {
            return at(froms, node) != ANY;
        }

        /** Two arrows that are joined wait in the queue, once each, for their sides to be joined. */
        private void joinAll(int one, int other) {
            int queued = join(one, other, 0);
            for (int i = 0; i < queued && i < ROOM; i++) {
                int joined = at(queue, i);
                int root = rootOf(joined);
                queued = join(at(froms, joined), at(froms, root), queued);
                queued = join(at(tos, joined), at(tos, root), queued);
            }
        }

        private int join(int one, int other, int queued) {
            int a = rootOf(one);
            int b = rootOf(other);
            if (a == b) {
                return queued;
            }
            if (isArrow(a) && isArrow(b)) {
                set(links, a, b);
                return enqueue(a, queued);
            }
            if (isArrow(a)) {
                set(links, b, a);
            } else {
                set(links, a, b);
            }
            return queued;
        }

        private int enqueue(int node, int queued) {
            if (queued < 0 || queued >= ROOM) {
                return queued;
            }
            set(queue, queued, node);
            return queued + 1;
        }

        /** Takes out what is no side of anything, again and again: only circles are left over. */
        private boolean hasCircle() {
            countSides();
            int roots = 0;
            int queued = 0;
            for (int node = 0; node < nodes; node++) {
                if (rootOf(node) == node) {
                    roots++;
                    queued = at(marks, node) == 0 ? enqueue(node, queued) : queued;
                }
            }
            for (int i = 0; i < queued && i < ROOM; i++) {
                int node = at(queue, i);
                if (isArrow(node)) {
                    queued = release(rootOf(at(froms, node)), queued);
                    queued = release(rootOf(at(tos, node)), queued);
                }
            }
            return queued < roots;
        }

        private void countSides() {
            clearMarks();
            for (int node = 0; node < nodes; node++) {
                if (rootOf(node) == node && isArrow(node)) {
                    countSide(rootOf(at(froms, node)));
                    countSide(rootOf(at(tos, node)));
                }
            }
        }

        private void countSide(int node) {
            set(marks, node, at(marks, node) + 1);
        }

        private int release(int node, int queued) {
            set(marks, node, at(marks, node) - 1);
            return at(marks, node) == 0 ? enqueue(node, queued) : queued;
        }

        private void clearMarks() {
            for (int node = 0; node < ROOM; node++) {
                set(marks, node, 0);
            }
        }

        private void tellType(int whole) {
            clearMarks();
            made.clear();
            waitingCount = 0;
            await(whole);
            int anys = 0;
            for (int cells = 0; cells <= MOST_NODES && waitingCount > 0 && !made.over; cells++) {
                int node = rootOf(nextWaiting());
                if (isArrow(node)) {
                    made.put(0);
                    await(at(tos, node));
                    await(at(froms, node));
                } else {
                    if (at(marks, node) == 0) {
                        anys++;
                        set(marks, node, anys);
                    }
                    made.put(at(marks, node));
                }
            }
        }
    }
}
