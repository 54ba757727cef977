/** Promises 6 to 8: step, spell, octet. */
public final class StepTest {
    public static void main(String[] args) {
        steps();
        spelling();
        octets();
        Trial.finish("StepTest");
    }

    private static void steps() {
        Trial t = new Trial();
        t.compile("\n a=5;guess none b=a;  guess large take size c=new int[a];take missing turn c;guess cast mark 1;");
        int[][] due = {{1, -1, 0, 2}, {1, 0, 0, 6}, {8, 7, 3, 23}, {20, -1, 1, 58}, {21, 5, 0, 78}};
        for (int k = 0; k < due.length; k++) {
            for (int what = 0; what < 4; what++) {
                Trial.due("step(" + k + ", " + what + ")", t.step(k, what), due[k][what]);
            }
            for (int what : new int[] {-1, 4, 5, Integer.MIN_VALUE, Integer.MAX_VALUE}) {
                Trial.due("step(" + k + ", " + what + ")", t.step(k, what), Trial.NO_SUCH);
            }
        }
        for (int k : new int[] {-1, 5, 99, 100, Integer.MIN_VALUE, Integer.MAX_VALUE}) {
            Trial.due("step(" + k + ", 0)", t.step(k, 0), Trial.NO_SUCH);
        }
        String[] refusals = "none missing index size store cast unlike large".split(" ");
        for (int r = 0; r < 8; r++) {
            t.compile("guess " + refusals[r] + (r == 0 ? "" : " take " + refusals[r]) + " a=1;");
            Trial.due("guess " + refusals[r], t.step(0, 1), r);
            Trial.due("take " + refusals[r], t.step(0, 2), r);
        }
        t.compile("a=1;");
        Trial.due("a step of the PROGRAM ahead", t.step(1, 0), Trial.NO_SUCH);
        Trial.due("no guess", t.step(0, 1), -1);
        // The latest compile had the FAULT: the steps are those of the PROGRAM.
        t.compile("guess none mark 5;b=");
        Trial.due("act behind a FAULT", t.step(0, 0), 1);
        Trial.due("guess behind a FAULT", t.step(0, 1), -1);
        t.named("cat[]");
        Trial.due("act behind named()", t.step(0, 0), 1);
        t.compile("a=5;".repeat(100));
        Trial.due("step(99, 3)", t.step(99, 3), 396);
        Trial.due("step(100, 3)", t.step(100, 3), Trial.NO_SUCH);
    }

    private static void spelled(String text, String want) {
        Trial t = new Trial();
        t.compile(text);
        Trial.dueText("spell() of " + text, t.spelled(0), want);
        Trial u = new Trial();
        u.compile(want);
        Trial.dueText("spell() of " + want, u.spelled(0), want);
    }

    private static void spelling() {
        spelled("a=b;", "a = b;");
        spelled("a=b[1][c][-2];", "a = b[1][c][-2];");
        spelled("a [ 1 ] = - 0005b ;", "a[1] = -5b;");
        spelled("a=read\nint b[ - 1 ];", "a = read int b[-1];");
        spelled("write long a[1]=5l;", "write long a[1] = 5l;");
        spelled("a=get b[1];", "a = get b[1];");
        spelled("put a[0]=none;", "put a[0] = none;");
        spelled("a=new int[3][ ] [ ];", "a = new int[3][][];");
        spelled("a=new int[3][i];", "a = new int[3][i];");
        spelled("a=clone b;", "a = clone b;");
        spelled("a=cast b cat[][];", "a = cast b cat[][];");
        spelled("a=is b cat;", "a = is b cat;");
        spelled("a=same b c;", "a = same b c;");
        spelled("a=size b;", "a = size b;");
        spelled("a=class b;", "a = class b;");
        spelled("a=hash b;", "a = hash b;");
        spelled("a=equal b c;", "a = equal b c;");
        spelled("copy a[1]to b[2]for 3;", "copy a[1] to b[2] for 3;");
        spelled("copy a[i]to b[-02]for - 3;", "copy a[i] to b[-2] for -3;");
        spelled("fill a with true;", "fill a with true;");
        spelled("swap a[1] [2];", "swap a[1][2];");
        spelled("turn a;", "turn a;");
        spelled("mark duck;", "mark duck;");
        spelled("guess none take missing a=5;", "guess none take missing a = 5;");
        spelled("guess unlike a=0;", "guess unlike a = 0;");
        spelled("a=000;", "a = 0;");
        spelled("a=-000c;", "a = -0c;");
        spelled("a=0000000000000000000d;", "a = 0d;");
        spelled("a=0100;", "a = 100;");
        spelled("a=-9223372036854775808l;", "a = -9223372036854775808l;");
        String longest = "guess missing take missing write double a[-2147483648][-2147483648][-2147483648] "
            + "= -9223372036854775808d;";
        spelled(longest, longest);
        Trial t = new Trial();
        t.compile("  a=1; \n b=2;c=3;");
        Trial.dueText("step 1", t.spelled(1), "b = 2;");
        Trial.dueText("step 2", t.spelled(2), "c = 3;");
        Trial.dueText("step 0", t.spelled(0), "a = 1;");
        t.tape("q=q;q=q;q=q;q=q;");
        Trial.dueText("step 1 with another tape", t.spelled(1), "b = 2;");
        for (int k : new int[] {-1, 3, 100, Integer.MIN_VALUE, Integer.MAX_VALUE}) {
            Trial.due("spell(" + k + ")", t.spell(k), Trial.NO_SUCH);
            Trial.due("OUT stays", t.x.count(2), 6);
            Trial.due("OUT stays", t.octet(0), 'b');
        }
    }

    private static void octets() {
        Trial t = new Trial();
        t.compile("mark -5;a=5;");
        Trial.due("octet ahead of a spell()", t.octet(0), Trial.NO_SUCH);
        Trial.due("spell(0)", t.spell(0), 8);
        String want = "mark -5;";
        for (int i = 0; i < 8; i++) {
            Trial.due("octet(" + i + ")", t.octet(i), want.charAt(i));
        }
        for (int i : new int[] {-1, 8, 511, 512, Integer.MIN_VALUE, Integer.MAX_VALUE}) {
            Trial.due("octet(" + i + ")", t.octet(i), Trial.NO_SUCH);
        }
        Trial.due("spell(1)", t.spell(1), 6);
        Trial.due("octet(6) of a shorter OUT", t.octet(6), Trial.NO_SUCH);
        t.compile("a=1;");
        Trial.due("OUT behind compile()", t.octet(4), '5');
    }
}
