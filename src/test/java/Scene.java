import java.util.ArrayList;
import java.util.List;

/**
 * A row of calls that is made anew on a new object for whatever is asked behind it. The document
 * tells of an object's first 512 calls alone: what takes more is asked of several that are alike.
 */
final class Scene {
    /** One call of the face. */
    interface Call {
        int on(LambdaShelf shelf);
    }

    static final int MOST_CALLS = 512;

    private final List<Call> calls;

    Scene() {
        calls = List.of();
    }

    private Scene(List<Call> calls) {
        this.calls = calls;
    }

    Scene then(Call... more) {
        List<Call> all = new ArrayList<>(calls);
        all.addAll(List.of(more));
        return new Scene(all);
    }

    /** A text behind THE TAPE, without the blanks that fill up the latest twenty. */
    Scene tape(String text) {
        int before = answer(x -> x.count(1));
        Scene fed = this;
        for (int at = 0; at < text.length(); at += 20) {
            int[] fours = new int[5];
            for (int i = 0; i < 5; i++) {
                fours[i] = Due.four(text, at + 4 * i);
            }
            fed = fed.then(x -> x.feed(fours[0], fours[1], fours[2], fours[3], fours[4]));
        }
        return text.length() % 20 == 0 ? fed : fed.then(x -> x.end(before + text.length()));
    }

    Scene term(String text) {
        return tape(text).then(LambdaShelf::term);
    }

    Scene terms(String... texts) {
        Scene all = this;
        for (String text : texts) {
            all = all.term(text);
        }
        return all;
    }

    /** Copies of a TERM until so many TERMS are there. */
    Scene copies(int t, int until) {
        Scene all = this;
        for (int there = answer(x -> x.count(0)); there < until; there++) {
            all = all.then(x -> x.copy(t));
        }
        return all;
    }

    /** What a call answers behind all these. */
    int answer(Call call) {
        return new Asker().ask(call);
    }

    String code(int t) {
        Asker asker = new Asker();
        int size = asker.ask(x -> x.size(t));
        StringBuilder code = new StringBuilder();
        for (int i = 0; i < size; i++) {
            int place = i;
            code.append(i == 0 ? "" : " ").append(asker.ask(x -> x.code(t, place)));
        }
        return code.toString();
    }

    /** The latest TYPE, up to the first place that is BAD. */
    String type() {
        Asker asker = new Asker();
        StringBuilder type = new StringBuilder();
        int cell = asker.ask(x -> x.type(0));
        for (int i = 1; cell != LambdaShelf.BAD && i <= 1000; i++) {
            int place = i;
            type.append(i == 1 ? "" : " ").append(cell);
            cell = asker.ask(x -> x.type(place));
        }
        return type.toString();
    }

    /** A TERM's text, up to its end. */
    String text(int t) {
        Asker asker = new Asker();
        StringBuilder text = new StringBuilder();
        int letter = asker.ask(x -> x.letter(t, 0));
        for (int i = 1; letter > 0 && i <= 3000; i++) {
            int place = i;
            text.append((char) letter);
            letter = asker.ask(x -> x.letter(t, place));
        }
        return text.toString();
    }

    /** All that can be asked, so that two states are one just if these texts are. */
    String state() {
        Asker asker = new Asker();
        StringBuilder state = new StringBuilder();
        for (int i = 0; i < 3; i++) {
            int what = i;
            state.append("count ").append(asker.ask(x -> x.count(what))).append('\n');
        }
        for (int i = 0; i < 2; i++) {
            int what = i;
            state.append("told ").append(asker.ask(x -> x.told(what))).append('\n');
        }
        state.append("fault ").append(asker.ask(LambdaShelf::fault)).append('\n');
        state.append("type ").append(type()).append('\n');
        int terms = asker.ask(x -> x.count(0));
        for (int t = 0; t < terms; t++) {
            state.append(t).append(": ").append(code(t)).append('\n');
        }
        return state.append(tapeState()).toString();
    }

    /** THE TAPE is seen by reading it alone: what each front part of it would be. */
    private String tapeState() {
        Scene room = answer(x -> x.count(0)) == 32 ? then(LambdaShelf::drop) : this;
        int bytes = answer(x -> x.count(1));
        StringBuilder state = new StringBuilder("tape");
        for (int n = 0; n <= bytes; n++) {
            LambdaShelf front = room.made();
            front.end(n);
            state.append(' ').append(front.term()).append('/').append(front.fault());
            state.append('/').append(front.count(2));
        }
        Scene whole = room.then(LambdaShelf::term);
        int last = whole.answer(x -> x.count(0)) - 1;
        return state.append("\nread ").append(whole.code(last)).toString();
    }

    /** A new object behind all these calls; few more are made on it. */
    private LambdaShelf made() {
        if (calls.size() + 4 > MOST_CALLS) {
            throw new IllegalStateException("a test with too many calls");
        }
        LambdaShelf shelf = new LambdaShelf();
        for (Call call : calls) {
            call.on(shelf);
        }
        return shelf;
    }

    /** Asks what changes nothing, of as many objects as that takes. */
    private final class Asker {
        private LambdaShelf shelf;
        private int made = MOST_CALLS;

        int ask(Call question) {
            if (made == MOST_CALLS) {
                shelf = made();
                made = calls.size();
            }
            made++;
            return question.on(shelf);
        }
    }
}
