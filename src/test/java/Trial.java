import java.nio.charset.StandardCharsets;
import java.util.NoSuchElementException;

/** A trainer under test, with short ways to feed it and to hold its answers against what is due. */
final class Trial {
    static final long NO_SUCH = Long.MIN_VALUE + 1;
    static final long ILLEGAL_STATE = Long.MIN_VALUE + 2;

    private static int wrong = 0;
    private static int asked = 0;
    private static int sentences = 0;
    private static String sentence = "";

    final ArrayTrainer x = new ArrayTrainer();

    /** The sentence of the document that the answers from here on are held against. */
    static void sentence(String words) {
        sentences++;
        sentence = "'" + words + "': ";
    }

    static void due(String what, long got, long want) {
        asked++;
        if (got != want) {
            complain(what + " answered " + show(got) + ", due is " + show(want));
        }
    }

    private static void complain(String words) {
        wrong++;
        if (wrong <= 50) {
            System.out.println(sentence + words);
        }
    }

    static void due(String what, boolean got, boolean want) {
        due(what, got ? 1 : 0, want ? 1 : 0);
    }

    static void dueText(String what, String got, String want) {
        asked++;
        if (!got.equals(want)) {
            complain(what + " answered '" + got + "', due is '" + want + "'");
        }
    }

    private static String show(long n) {
        return n == NO_SUCH ? "throws.NoSuchElementException"
            : n == ILLEGAL_STATE ? "throws.IllegalStateException" : Long.toString(n);
    }

    /** Ends a test's main. */
    static void finish(String test) {
        String told = sentences == 0 ? "" : " to " + sentences + " sentences";
        System.out.println(test + ": " + asked + " answers" + told + ", " + wrong + " wrong");
        if (wrong != 0) {
            System.exit(1);
        }
    }

    static int word(byte[] b, int at) {
        int n = 0;
        for (int i = at; i < at + 4; i++) {
            n = n << 8 | (i < b.length ? b[i] & 255 : 0);
        }
        return n;
    }

    /** Makes the tape the text alone. */
    Trial tape(String text) {
        byte[] b = text.getBytes(StandardCharsets.ISO_8859_1);
        due("end(0)", x.end(0), true);
        for (int at = 0; at < b.length; at += 20) {
            x.feed(word(b, at), word(b, at + 4), word(b, at + 8), word(b, at + 12), word(b, at + 16));
        }
        due("end(" + b.length + ")", x.end(b.length), true);
        return this;
    }

    int compile(String text) {
        return tape(text).x.compile();
    }

    /** Compiles what must be fine, and runs it: what run() answers. */
    int run(String text) {
        due("fault of " + text, compile(text) < 0 ? x.fault() : 0, 0);
        return x.run();
    }

    static Trial ran(String text) {
        Trial t = new Trial();
        t.run(text);
        return t;
    }

    /** Runs the text with its last STEP's REFUSAL due, 0 where it is done; none ahead of it may end the run. */
    static Trial last(String text, int refusal) {
        Trial t = new Trial();
        int got = t.run(text);
        int steps = t.x.count(0);
        due("run() of " + text, got, refusal == 0 ? 0 : steps);
        due("last of " + text, t.outcome(steps - 1), refusal);
        return t;
    }

    /** Runs the text, of which all is done, with the NUMBER due that is in the VAR then. */
    static void is(String text, char var, long want) {
        due(var + " behind " + text, last(text, 0).number(var), want);
    }

    static void fine(String text, int steps) {
        Trial t = new Trial();
        due("compile() of " + text, t.compile(text), steps);
        due("fault() of " + text, t.x.fault(), 0);
        due("tape behind " + text, t.x.count(1), 0);
        due("steps of " + text, t.x.count(0), steps);
    }

    static void fault(String text, int kind, int place) {
        Trial t = new Trial();
        due("compile() of " + text, t.compile(text), -1 - place);
        due("fault() of " + text, t.x.fault(), kind);
        due("tape behind " + text, t.x.count(1), text.length());
        due("steps of " + text, t.x.count(0), 0);
    }

    /** A FAULT where the text has a ! , which is taken out. */
    static void faultAt(String marked, int kind) {
        fault(marked.replace("!", ""), kind, marked.indexOf('!'));
    }

    long step(int k, int what) {
        try {
            return x.step(k, what);
        } catch (NoSuchElementException e) {
            return NO_SUCH;
        }
    }

    long spell(int k) {
        try {
            return x.spell(k);
        } catch (NoSuchElementException e) {
            return NO_SUCH;
        }
    }

    long octet(int i) {
        try {
            return x.octet(i);
        } catch (NoSuchElementException e) {
            return NO_SUCH;
        }
    }

    long runAgain() {
        try {
            return x.run();
        } catch (IllegalStateException e) {
            return ILLEGAL_STATE;
        }
    }

    long outcome(int k) {
        try {
            return x.outcome(k);
        } catch (NoSuchElementException e) {
            return NO_SUCH;
        }
    }

    long value(int v, int i, int j, int k) {
        try {
            return x.value(v, i, j, k);
        } catch (NoSuchElementException e) {
            return NO_SUCH;
        }
    }

    long number(char var, int... path) {
        return value(var - 'a', at(path, 0), at(path, 1), at(path, 2));
    }

    int cls(char var, int... path) {
        return x.look(var - 'a', at(path, 0), at(path, 1), at(path, 2), 0);
    }

    int length(char var, int... path) {
        return x.look(var - 'a', at(path, 0), at(path, 1), at(path, 2), 1);
    }

    private static int at(int[] path, int n) {
        return n < path.length ? path[n] : ArrayTrainer.NONE;
    }

    long marked(int k) {
        try {
            return x.marked(k);
        } catch (NoSuchElementException e) {
            return NO_SUCH;
        }
    }

    int named(String text) {
        return tape(text).x.named();
    }

    String nameOf(int cls) {
        StringBuilder s = new StringBuilder();
        for (int i = 0; i < 100 && x.name(cls, i) != ArrayTrainer.NONE; i++) {
            s.append((char) x.name(cls, i));
        }
        return s.toString();
    }

    /** Step k as spell() and octet() tell it. */
    String spelled(int k) {
        long n = spell(k);
        StringBuilder s = new StringBuilder();
        for (int i = 0; i < n; i++) {
            s.append((char) octet(i));
        }
        due("octet behind OUT", octet((int) n), NO_SUCH);
        due("bytes of OUT", x.count(2), n);
        return s.toString();
    }

    /** The outcomes of all STEPS, a digit each, - where it was not come to. */
    String outcomes() {
        StringBuilder s = new StringBuilder();
        for (int k = 0; k < x.count(0); k++) {
            long o = outcome(k);
            s.append(o == ArrayTrainer.NONE ? "-" : Long.toString(o));
        }
        return s.toString();
    }

    /** All that can be asked of a trainer but for the tape: fault(), and what program() and things() tell. */
    String state() {
        return x.fault() + program() + things();
    }

    /** The PROGRAM with its outcomes, the counts, and OUT. */
    private String program() {
        StringBuilder s = new StringBuilder(" counts");
        for (int what = 0; what <= 9; what++) {
            s.append(what == 1 ? "" : " " + x.count(what));
        }
        for (int k = 0; k < x.count(0); k++) {
            s.append(" step ").append(outcome(k));
            for (int what = 0; what < 4; what++) {
                s.append(' ').append(step(k, what));
            }
        }
        s.append(" out ");
        for (int i = 0; i < x.count(2); i++) {
            s.append((char) octet(i));
        }
        return s.toString();
    }

    /** The VARS with all that is in them, which of it is the very same, and the MARKS. */
    String things() {
        StringBuilder s = new StringBuilder();
        for (int v = 0; v < 26; v++) {
            s.append("\n").append((char) ('a' + v));
            tell(s, v, -1, -1, -1);
            for (int w = 0; w < 26; w++) {
                s.append(x.same(v, -1, w, -1) ? "=" : "");
                for (int n = 0; n < 16 && v < 6 && w < 6; n++) {
                    s.append(x.same(v, n / 4, w, n % 4) ? "+" : "-");
                }
            }
        }
        for (int k = 0; k <= 50; k++) {
            s.append(" mark ").append(x.mark(k, 0)).append(' ').append(marked(k));
        }
        return s.toString();
    }

    private void tell(StringBuilder s, int v, int i, int j, int k) {
        int length = x.look(v, i, j, k, 1);
        s.append(' ').append(x.look(v, i, j, k, 0)).append(' ').append(length).append(' ').append(value(v, i, j, k));
        for (int n = 0; n < length && k == -1; n++) {
            if (i == -1) {
                tell(s, v, n, -1, -1);
            } else if (j == -1) {
                tell(s, v, i, n, -1);
            } else {
                tell(s, v, i, j, n);
            }
        }
    }
}
