/** Promises 1 to 3: a new object, feed, end. */
public final class TapeTest {
    public static void main(String[] args) {
        newObject();
        feed();
        end();
        bytesByPlace();
        Trial.finish("TapeTest");
    }

    private static void newObject() {
        Trial t = new Trial();
        for (int what = 0; what <= 9; what++) {
            Trial.due("new: count(" + what + ")", t.x.count(what), 0);
        }
        Trial.due("new: fault()", t.x.fault(), 0);
        Trial.due("new: run()", t.runAgain(), Trial.ILLEGAL_STATE);
        Trial.due("new: step(0, 0)", t.step(0, 0), Trial.NO_SUCH);
        Trial.due("new: spell(0)", t.spell(0), Trial.NO_SUCH);
        Trial.due("new: octet(0)", t.octet(0), Trial.NO_SUCH);
        Trial.due("new: outcome(0)", t.outcome(0), Trial.NO_SUCH);
        Trial.due("new: marked(0)", t.marked(0), Trial.NO_SUCH);
        Trial.due("new: mark(0, 0)", t.x.mark(0, 0), -1);
        for (char v = 'a'; v <= 'z'; v++) {
            Trial.due("new: look(" + v + ")", t.cls(v), -1);
            Trial.due("new: length(" + v + ")", t.length(v), -1);
            Trial.due("new: value(" + v + ")", t.number(v), Trial.NO_SUCH);
        }
        Trial.due("new: same(0, -1, 0, -1)", t.x.same(0, -1, 0, -1), false);
        Trial.due("new: compile()", t.x.compile(), -1);
        Trial.due("new: fault() behind it", t.x.fault(), 2);
        Trial.due("NONE", ArrayTrainer.NONE, -1);
    }

    private static void feed() {
        Trial t = new Trial();
        for (int n = 1; n <= 155; n++) {
            Trial.due("feed " + n, t.x.feed(0, 0, 0, 0, 0), 20 * n);
        }
        Trial.due("feed beyond 3100", t.x.feed(0, 0, 0, 0, 0), -1);
        Trial.due("its tape", t.x.count(1), 3100);
        Trial.due("end(3081)", t.x.end(3081), true);
        Trial.due("feed to 3101", t.x.feed(0, 0, 0, 0, 0), -1);
        Trial.due("its tape", t.x.count(1), 3081);
        Trial.due("end(3080)", t.x.end(3080), true);
        Trial.due("feed to 3100", t.x.feed(0, 0, 0, 0, 0), 3100);
    }

    private static void end() {
        Trial t = new Trial();
        Trial.due("end(0) of an empty tape", t.x.end(0), true);
        Trial.due("end(1) of an empty tape", t.x.end(1), false);
        Trial.due("feed", t.x.feed(1, 2, 3, 4, 5), 20);
        Trial.due("end(21)", t.x.end(21), false);
        Trial.due("end(-1)", t.x.end(-1), false);
        Trial.due("end(least)", t.x.end(Integer.MIN_VALUE), false);
        Trial.due("end(greatest)", t.x.end(Integer.MAX_VALUE), false);
        Trial.due("tape", t.x.count(1), 20);
        Trial.due("end(20)", t.x.end(20), true);
        Trial.due("end(7)", t.x.end(7), true);
        Trial.due("tape", t.x.count(1), 7);
        Trial.due("end(8)", t.x.end(8), false);
        Trial.due("feed behind 7", t.x.feed(1, 2, 3, 4, 5), 27);
    }

    /** Each of the twenty bytes comes to its place, the highest of a number first. */
    private static void bytesByPlace() {
        String fill = "                    ";
        for (int at = 0; at < 20; at++) {
            for (int b : new int[] {0, 127, 128, 200, 255}) {
                Trial t = new Trial();
                String text = fill.substring(0, at) + (char) b + fill.substring(at + 1);
                Trial.due("compile() with " + b + " at " + at, t.compile(text), -1 - at);
                Trial.due("its fault", t.x.fault(), 1);
            }
        }
        Trial t = new Trial();
        t.x.feed(0x613d353b, 0x623d363b, 0x633d373b, 0x643d383b, 0x653d393b);
        Trial.due("a=5;b=6;c=7;d=8;e=9;", t.x.compile(), 5);
        t.x.run();
        for (int v = 0; v < 5; v++) {
            Trial.due("value of " + v, t.value(v, -1, -1, -1), 5 + v);
        }
        // A cut tape goes on behind the cut, and not behind what was fed.
        t.x.feed(0x613d353b, 0x623d363b, 0, 0, 0);
        t.x.end(2);
        t.x.feed(0x373b0000, 0, 0, 0, 0);
        t.x.end(4);
        Trial.due("a=7;", t.x.compile(), 1);
        t.x.run();
        Trial.due("its value", t.number('a'), 7);
        // What is behind the cut is no part of a TOKEN ahead of it.
        t.tape("a=bcd;");
        t.x.end(3);
        Trial.due("a=b", t.x.compile(), -4);
        Trial.due("its fault", t.x.fault(), 2);
        t.tape("a=12345678901234567890;");
        t.x.end(4);
        Trial.due("a=12", t.x.compile(), -5);
        Trial.due("its fault", t.x.fault(), 2);
        t.tape("cats[]");
        t.x.end(3);
        Trial.due("cat", t.x.named(), 9);
        // A TOKEN that ends where the tape can't be longer.
        t.tape(" ".repeat(3097) + "cat");
        Trial.due("cat at the end of a full tape", t.x.named(), 9);
        t.tape(" ".repeat(3100));
        Trial.due("a full tape without a TOKEN", t.x.named(), -1);
    }
}
