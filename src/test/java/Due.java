/** What the tests share: answers that are due, and texts brought to a shelf. */
final class Due {
    private final String name;
    private int wrong;
    private int asked;

    Due(String name) {
        this.name = name;
    }

    void is(String call, long got, long want) {
        asked++;
        if (got != want) {
            wrong++;
            System.out.println(name + ": " + call + " answered " + got + ", due is " + want);
        }
    }

    void is(String call, String got, String want) {
        asked++;
        if (!got.equals(want)) {
            wrong++;
            System.out.println(name + ": " + call + " answered '" + got + "', due is '" + want + "'");
        }
    }

    void finish() {
        System.out.println(name + ": " + asked + " answers, " + wrong + " wrong");
        if (wrong != 0 || asked == 0) {
            System.exit(1);
        }
    }

    static int four(String text, int place) {
        int value = 0;
        for (int i = 0; i < 4; i++) {
            value = value << 8 | (place + i < text.length() ? text.charAt(place + i) & 255 : 32);
        }
        return value;
    }

    /** Feeds a text, the rest of twenty as blanks: the latest answer. */
    static int feed(LambdaShelf shelf, String text) {
        int answer = shelf.count(1);
        for (int at = 0; at < text.length(); at += 20) {
            answer = shelf.feed(four(text, at), four(text, at + 4), four(text, at + 8),
                    four(text, at + 12), four(text, at + 16));
        }
        return answer;
    }

    /** Feeds a text to an empty tape and takes the blanks behind it away. */
    static void feedJust(LambdaShelf shelf, String text) {
        feed(shelf, text);
        shelf.end(text.length());
    }

    static int term(LambdaShelf shelf, String text) {
        feedJust(shelf, text);
        return shelf.term();
    }

    static String text(LambdaShelf shelf, int t) {
        StringBuilder text = new StringBuilder();
        for (int i = 0; shelf.letter(t, i) > 0; i++) {
            text.append((char) shelf.letter(t, i));
        }
        return text.toString();
    }

    static String code(LambdaShelf shelf, int t) {
        StringBuilder code = new StringBuilder();
        for (int i = 0; i < shelf.size(t); i++) {
            code.append(i == 0 ? "" : " ").append(shelf.code(t, i));
        }
        return code.toString();
    }

    static String type(LambdaShelf shelf) {
        StringBuilder type = new StringBuilder();
        for (int i = 0; shelf.type(i) != LambdaShelf.BAD; i++) {
            type.append(i == 0 ? "" : " ").append(shelf.type(i));
        }
        return type.toString();
    }

    static String many(String part, int n) {
        return part.repeat(n);
    }

    /** A text of a TERM without a REDEX of just this SIZE, 1 to 500. */
    static String sized(int size) {
        return size % 2 == 1 ? many("X", (size + 1) / 2) : "\\x." + many("X", size / 2);
    }
}
