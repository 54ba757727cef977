import java.nio.charset.StandardCharsets;
import java.util.NoSuchElementException;

/** A trainer under test, with short ways to feed it and to hold its answers against what is due. */
final class Trial {
    static final long NO_SUCH = Long.MIN_VALUE + 1;
    static final long ILLEGAL_STATE = Long.MIN_VALUE + 2;

    private static int wrong = 0;
    private static int asked = 0;

    final ArrayTrainer x = new ArrayTrainer();

    static void due(String what, long got, long want) {
        asked++;
        if (got != want) {
            wrong++;
            if (wrong <= 50) {
                System.out.println(what + " answered " + show(got) + ", due is " + show(want));
            }
        }
    }

    static void due(String what, boolean got, boolean want) {
        due(what, got ? 1 : 0, want ? 1 : 0);
    }

    static void dueText(String what, String got, String want) {
        asked++;
        if (!got.equals(want)) {
            wrong++;
            System.out.println(what + " answered '" + got + "', due is '" + want + "'");
        }
    }

    private static String show(long n) {
        return n == NO_SUCH ? "throws.NoSuchElementException"
            : n == ILLEGAL_STATE ? "throws.IllegalStateException" : Long.toString(n);
    }

    /** Ends a test's main. */
    static void finish(String test) {
        System.out.println(test + ": " + asked + " answers, " + wrong + " wrong");
        if (wrong != 0) {
            System.exit(1);
        }
    }

    static int word(byte[] b, int at) {
        int n = 0;
        for (int i = at; i < at + 4; i++) {
            n = n << 8 | (i < b.length ? b[i] & 255 : 0);
        }
        return n;
    }

    /** Makes the tape the text alone. */
    Trial tape(String text) {
        byte[] b = text.getBytes(StandardCharsets.ISO_8859_1);
        due("end(0)", x.end(0), true);
        for (int at = 0; at < b.length; at += 20) {
            x.feed(word(b, at), word(b, at + 4), word(b, at + 8), word(b, at + 12), word(b, at + 16));
        }
        due("end(" + b.length + ")", x.end(b.length), true);
        return this;
    }

    int compile(String text) {
        return tape(text).x.compile();
    }

    /** Compiles what must be fine, and runs it: what run() answers. */
    int run(String text) {
        due("fault of " + text, compile(text) < 0 ? x.fault() : 0, 0);
        return x.run();
    }

    static Trial ran(String text) {
        Trial t = new Trial();
        t.run(text);
        return t;
    }

    long step(int k, int what) {
        try {
            return x.step(k, what);
        } catch (NoSuchElementException e) {
            return NO_SUCH;
        }
    }

    long spell(int k) {
        try {
            return x.spell(k);
        } catch (NoSuchElementException e) {
            return NO_SUCH;
        }
    }

    long octet(int i) {
        try {
            return x.octet(i);
        } catch (NoSuchElementException e) {
            return NO_SUCH;
        }
    }

    long runAgain() {
        try {
            return x.run();
        } catch (IllegalStateException e) {
            return ILLEGAL_STATE;
        }
    }

    long outcome(int k) {
        try {
            return x.outcome(k);
        } catch (NoSuchElementException e) {
            return NO_SUCH;
        }
    }

    long value(int v, int i, int j, int k) {
        try {
            return x.value(v, i, j, k);
        } catch (NoSuchElementException e) {
            return NO_SUCH;
        }
    }

    long number(char var, int... path) {
        return value(var - 'a', at(path, 0), at(path, 1), at(path, 2));
    }

    int cls(char var, int... path) {
        return x.look(var - 'a', at(path, 0), at(path, 1), at(path, 2), 0);
    }

    int length(char var, int... path) {
        return x.look(var - 'a', at(path, 0), at(path, 1), at(path, 2), 1);
    }

    private static int at(int[] path, int n) {
        return n < path.length ? path[n] : ArrayTrainer.NONE;
    }

    long marked(int k) {
        try {
            return x.marked(k);
        } catch (NoSuchElementException e) {
            return NO_SUCH;
        }
    }

    int named(String text) {
        return tape(text).x.named();
    }

    String nameOf(int cls) {
        StringBuilder s = new StringBuilder();
        for (int i = 0; i < 100 && x.name(cls, i) != ArrayTrainer.NONE; i++) {
            s.append((char) x.name(cls, i));
        }
        return s.toString();
    }

    /** Step k as spell() and octet() tell it. */
    String spelled(int k) {
        long n = spell(k);
        StringBuilder s = new StringBuilder();
        for (int i = 0; i < n; i++) {
            s.append((char) octet(i));
        }
        due("octet behind OUT", octet((int) n), NO_SUCH);
        due("bytes of OUT", x.count(2), n);
        return s.toString();
    }

    /** The outcomes of all STEPS, a digit each, - where it was not come to. */
    String outcomes() {
        StringBuilder s = new StringBuilder();
        for (int k = 0; k < x.count(0); k++) {
            long o = outcome(k);
            s.append(o == ArrayTrainer.NONE ? "-" : Long.toString(o));
        }
        return s.toString();
    }
}
