/** Promises 4 and 5: compile and fault. */
public final class CompileTest {
    public static void main(String[] args) {
        everyAct();
        noToken();
        cantComeAtEach();
        theEnd();
        numbers();
        fliers();
        tooMany();
        longTexts();
        allStays();
        Trial.finish("CompileTest");
    }

    private static void fine(String text, int steps) {
        Trial.fine(text, steps);
    }

    private static void fault(String text, int kind, int place) {
        Trial.fault(text, kind, place);
    }

    private static void faultAt(String marked, int kind) {
        Trial.faultAt(marked, kind);
    }

    private static final String[] ACTS = {
        "a = b ;", "a = b [ 1 ] ;", "a [ 1 ] = b ;", "a = read int b [ 1 ] ;", "write long a [ 1 ] = b ;",
        "a = get b [ 1 ] ;", "put a [ 1 ] = b ;", "a = new int [ 1 ] ;", "a = clone b ;", "a = cast b cat [ ] ;",
        "a = is b cat ;", "a = same b c ;", "a = size b ;", "a = class b ;", "a = hash b ;", "a = equal b c ;",
        "copy a [ 1 ] to b [ 2 ] for 3 ;", "fill a with 1 ;", "swap a [ 1 ] [ 2 ] ;", "turn a ;", "mark a ;"};

    private static void everyAct() {
        for (int k = 0; k < ACTS.length; k++) {
            for (String lead : new String[] {"", "guess none ", "guess index take large ", "take cast "}) {
                String text = lead + ACTS[k];
                fine(text, 1);
                Trial t = new Trial();
                t.compile(text);
                Trial.due("act of " + text, t.step(0, 0), k + 1);
                fine(text.replace(' ', '\n'), 1);
                fine("  \n" + text + text + "\n\n ", 2);
            }
            fine(ACTS[k].replace(" [", "[").replace("[ ", "[").replace(" ]", "]").replace("= ", "=")
                .replace(" =", "=").replace(" ;", ";").replace("] ", "]"), 1);
        }
        for (String r : "missing index size store cast unlike large".split(" ")) {
            fine("guess " + r + " take " + r + " a=b;", 1);
        }
        for (String atom : ("b 1 -1 1b -1b 1s 1c 1l 1f 1d - 1 true false none beast cat lion dog bird duck bat")
                .split(" (?!1 true)")) {
            fine("a=" + atom + ";a[1]=" + atom + ";mark " + atom + ";fill a with " + atom + ";", 4);
        }
        for (String kind : "truth byte short char int long float double".split(" ")) {
            fine("a=read " + kind + " b[1];write " + kind + " b[1]=2;", 2);
        }
        for (String name : ("truth byte short char int long float double beast cat lion dog bird duck bat "
                + "flier swimmer").split(" ")) {
            fine("a=new " + name + "[1];a=new " + name + "[1][];a=new " + name + "[i][-1][]; a=new "
                + name + "[1][2][3];a=new " + name + "[1][][];", 5);
            fine("a=is b " + name + "[];a=cast b " + name + "[][];a=is b " + name + "[][][];", 3);
        }
        fine("a=b[1][c][-2];a[1][1][1]=5;a=get a[1][2][3];", 3);
        fine("copy a[b]to c[d]for e;", 1);
        fine("z=a;a=z;", 2);
    }

    private static void noToken() {
        for (int b = 0; b < 256; b++) {
            char c = (char) b;
            boolean known = c == '\n' || c == ' ' || c >= 'a' && c <= 'z' || c >= '0' && c <= '9'
                || "[]=;-".indexOf(c) >= 0;
            if (!known) {
                fault("" + c, 1, 0);
                fault("a=b;" + c, 1, 4);
                fault("a" + c + "=b;", 1, 1);
                fault("a=5" + c + ";", 1, 3);
            }
        }
        faultAt("a=!5x;", 1);
        faultAt("a=!5bb;", 1);
        faultAt("a=!5i;", 1);
        faultAt("a=!5b5;", 1);
        faultAt("a=-!5e;", 1);
        faultAt("!a5=5;", 1);
        faultAt("a=!b5;", 1);
        for (int digit = 0; digit < 10; digit++) {
            faultAt("a=!b" + digit + ";", 1);
            faultAt("a=!true" + digit + ";", 1);
            faultAt("a=!b" + digit + "c;", 1);
        }
        faultAt("a=!trues1;", 1);
        faultAt("a=b; !abcdefghi", 1);
        faultAt("a=b; !abcdefgh", 2);
        faultAt("a=!00000000000000000001;", 1);
        fine("a=0000000000000000001;", 1);
        fine("a=0000000000000000001b;", 1);
        faultAt("a=!00000000000000000001b;", 1);
        faultAt("a=b[!1x];", 1);
        faultAt("a=b[1]!.;", 1);
        faultAt("guess !$ a=b;", 1);
        faultAt("take !$ a=b;", 1);
    }

    /** Behind every beginning of every act's tokens, each token that the grammar has not there. */
    private static void cantComeAtEach() {
        String[] tokens = {"[", "]", "=", ";", "-", "5", "a", "int", "cat", "flier", "guess", "take", "none",
            "missing", "read", "write", "new", "to", "for", "with", "true", "zebra"};
        for (String act : ACTS) {
            String[] parts = act.split(" ");
            for (int n = 0; n < parts.length; n++) {
                String ahead = String.join(" ", java.util.Arrays.copyOf(parts, n)) + (n == 0 ? "" : " ");
                for (String token : tokens) {
                    // Only those of which this much alone tells that they can't come.
                    boolean sign = "]=;".contains(token);
                    boolean odd = token.equals("zebra") || token.equals("to") && !parts[n].equals("to")
                        || token.equals("for") && !parts[n].equals("for")
                        || token.equals("with") && !parts[n].equals("with")
                        || sign && !parts[n].equals(token) && !mayStand(ahead, token);
                    if (odd) {
                        fault(ahead + token, 2, ahead.length());
                    }
                }
            }
        }
        faultAt("!;", 2);
        faultAt("!5;", 2);
        faultAt("![", 2);
        faultAt("!read int a[1];", 2);
        faultAt("!missing a=5;", 2);
        faultAt("take index !guess none a=5;", 2);
        faultAt("guess none !guess none a=5;", 2);
        faultAt("take index !take index a=5;", 2);
        faultAt("guess !a=5;", 2);
        faultAt("take !none a=5;", 2);
        faultAt("a=!guess;", 2);
        faultAt("a=!int;", 2);
        faultAt("a=!flier;", 2);
        faultAt("a=!swimmer;", 2);
        faultAt("a=!write int b[1]=5;", 2);
        faultAt("a=-!b;", 2);
        faultAt("a=-!true;", 2);
        faultAt("a=-!-5;", 2);
        faultAt("a=b[-!c];", 2);
        faultAt("a=b[-!-5];", 2);
        faultAt("a=b[!];", 2);
        faultAt("a=b[!true];", 2);
        faultAt("a=b[!ab];", 2);
        faultAt("a=b[1 !2];", 2);
        faultAt("a=b!];", 2);
        faultAt("a=5![1];", 2);
        faultAt("a=b !c;", 2);
        faultAt("a[1]=b![1];", 2);
        faultAt("put a[1]=b![1];", 2);
        faultAt("put a!=b;", 2);
        faultAt("a=get b!;", 2);
        faultAt("a=read !cat b[1];", 2);
        faultAt("a=read !flier b[1];", 2);
        faultAt("a=read int b!;", 2);
        faultAt("a=read int![1];", 2);
        faultAt("write int a[1]!;", 2);
        faultAt("write !b a[1]=5;", 2);
        faultAt("a=new int!;", 2);
        faultAt("a=new flier!;", 2);
        faultAt("a=new int[!];", 2);
        faultAt("a=new int[!][1];", 2);
        faultAt("a=new int[1][][!1];", 2);
        faultAt("a=new int[1][][!99999999999];", 2);
        faultAt("a=new int[1][][!-1];", 2);
        faultAt("a=new int[1][][!b];", 2);
        faultAt("a=new ![1];", 2);
        faultAt("a=new !b[1];", 2);
        faultAt("a=clone b![1];", 2);
        faultAt("a=clone !5;", 2);
        faultAt("a=cast b !c;", 2);
        faultAt("a=cast b!;", 2);
        faultAt("a=cast b int[!1];", 2);
        faultAt("a=is b flier[!;", 2);
        faultAt("a=same b !5;", 2);
        faultAt("a=equal b!;", 2);
        faultAt("a=hash !cat;", 2);
        faultAt("copy a !to b[1] for 1;", 2);
        faultAt("copy a[1]![1] to b[1] for 1;", 2);
        faultAt("copy a[1] to b[1]![1] for 1;", 2);
        faultAt("copy a[1] to b[1] for ![1];", 2);
        faultAt("copy a[1] !for b[1] to 1;", 2);
        faultAt("fill a!=5;", 2);
        faultAt("fill a![1] with 5;", 2);
        faultAt("swap a[1]!;", 2);
        faultAt("swap a[1][2]![3];", 2);
        faultAt("swap a!;", 2);
        faultAt("turn a![1];", 2);
        faultAt("turn !aa;", 2);
        faultAt("mark a![1];", 2);
        faultAt("mark !;", 2);
        faultAt("a=5;!;", 2);
        faultAt("!ab=5;", 2);
        faultAt("a !5;", 2);
    }

    private static boolean mayStand(String ahead, String token) {
        // What begins as the act told here may go on as another one.
        return token.equals("=") && ahead.equals("a ") || token.equals(";") && ahead.equals("a = b ")
            || token.equals(";") && (ahead.endsWith("cast b cat ") || ahead.endsWith("is b cat "));
    }

    private static void theEnd() {
        fault("", 2, 0);
        fault("   ", 2, 3);
        fault("\n", 2, 1);
        fault("a=5", 2, 3);
        fault("a=5 \n", 2, 5);
        fault("a=5;b", 2, 5);
        fault("a=5;guess", 2, 9);
        fault("take index", 2, 10);
        for (String act : ACTS) {
            String[] parts = act.split(" ");
            for (int n = 0; n < parts.length; n++) {
                String ahead = String.join(" ", java.util.Arrays.copyOf(parts, n));
                fault(ahead, 2, ahead.length());
            }
        }
    }

    private static void numbers() {
        String[] greatest = {"127b", "32767s", "65535c", "2147483647", "9223372036854775807l",
            "9223372036854775807f", "9223372036854775807d", "0127b"};
        String[] beyond = {"128b", "32768s", "65536c", "2147483648", "9223372036854775808l",
            "9223372036854775808f", "9223372036854775808d", "9999999999999999999l", "9999999999999999999",
            "9999999999999999999b", "9999999999999999999c", "9999999999999999999d", "4294967296", "4294967297b"};
        String[] least = {"128b", "32768s", "0c", "2147483648", "9223372036854775808l", "9223372036854775808f",
            "9223372036854775808d", "0b", "0"};
        String[] below = {"129b", "32769s", "1c", "65535c", "2147483649", "9223372036854775809l",
            "9223372036854775809f", "9223372036854775809d", "9999999999999999999l", "9223372036854775808",
            "9223372036854775808b"};
        for (String n : greatest) {
            fine("a=" + n + ";mark " + n + ";", 2);
        }
        for (String n : beyond) {
            faultAt("a=!" + n + ";", 3);
            faultAt("fill a with !" + n, 3);
        }
        for (String n : least) {
            fine("a=-" + n + ";a[0]=- " + n + ";", 2);
        }
        for (String n : below) {
            faultAt("a=-!" + n + ";", 3);
            faultAt("put a[1]= - !" + n + ";", 3);
        }
        fine("a=b[2147483647];a=b[-2147483648];", 2);
        faultAt("a=b[!2147483648];", 3);
        faultAt("a=b[-!2147483649];", 3);
        faultAt("a=b[!9999999999999999999];", 3);
        for (String letter : "b s c l f d".split(" ")) {
            faultAt("a=b[!1" + letter + "];", 3);
            faultAt("a=b[-!1" + letter + "];", 3);
            faultAt("a=new int[!1" + letter + "];", 3);
            faultAt("copy a[1] to b[1] for !1" + letter + ";", 3);
            faultAt("swap a[1][!99999999999" + letter + "];", 3);
        }
        // The first along the text, whatever its kind.
        faultAt("a=!200b $", 3);
        faultAt("a=b[!5b $", 3);
        faultAt("a=- !$ 200b", 1);
    }

    private static void fliers() {
        for (String name : new String[] {"flier", "swimmer"}) {
            faultAt("a=is b !" + name + ";", 3);
            faultAt("a=cast b !" + name + ";", 3);
            faultAt("a=cast b !" + name, 3);
            faultAt("a=cast b !" + name + " $", 3);
            faultAt("a=cast b !" + name + " ]", 3);
            faultAt("a=cast b " + name + "[!$", 1);
            faultAt("a=cast b " + name + "[!;", 2);
            fine("a=is b " + name + "[];", 1);
        }
        fault("a=cast b flier[]", 2, 16);
    }

    private static void tooMany() {
        fine("a=5;".repeat(100), 100);
        fault("a=5;".repeat(100) + " a", 4, 401);
        fault("a=5;".repeat(100) + "guess", 4, 400);
        fault("a=5;".repeat(100) + "take", 4, 400);
        fault("a=5;".repeat(100) + "write", 4, 400);
        fault("a=5;".repeat(100) + "mark", 4, 400);
        fault("a=5;".repeat(100) + ";", 2, 400);
        fault("a=5;".repeat(100) + "read", 2, 400);
        fault("a=5;".repeat(100) + "5", 2, 400);
        fault("a=5;".repeat(100) + "ab", 2, 400);
        fault("a=5;".repeat(100) + "$", 1, 400);
        fault("a=5;".repeat(99) + "a=5$", 1, 399);
        fine("a=5;".repeat(100) + "   ", 100);
        fine("take index a=5;".repeat(8), 8);
        fault("take index a=5;".repeat(8) + "take", 4, 120);
        fault("take index a=5;".repeat(8) + "guess none take index a=5;", 4, 131);
        fault("take index a=5;".repeat(8) + "a=5;take $", 4, 124);
        faultAt("a=b[1][2][3]![4];", 4);
        faultAt("a=b[1][2][3]![", 4);
        faultAt("a[1][2][3]![4]=5;", 4);
        faultAt("a=get b[1][2][3]![4];", 4);
        faultAt("put a[1][2][3]![4]=5;", 4);
        faultAt("a=read int b[1][2][3]![4];", 4);
        faultAt("write int b[1][2][3]![4]=5;", 4);
        faultAt("a=new int[1][2][3]![4];", 4);
        faultAt("a=new int[1][2][3]![];", 4);
        faultAt("a=new int[1][][]![];", 4);
        faultAt("a=new int[1][2][]![$", 4);
        faultAt("a=cast b cat[][][]![];", 4);
        faultAt("a=is b flier[][][]![];", 4);
    }

    private static String padded(String text, int size) {
        return text + " ".repeat(size - text.length());
    }

    private static void longTexts() {
        fine(padded("a=5;", 3000), 1);
        fault(padded("a=5;", 3001), 1, 3000);
        fault(padded("a=5;", 3100), 1, 3000);
        fault(padded("", 3000), 2, 3000);
        fault(padded("", 3001), 1, 3000);
        fault(padded("a=5", 3000), 2, 3000);
        fault(padded("a=5", 3001), 1, 3000);
        fault(padded("a=5;$", 3100), 1, 4);
        fault(padded("a=5;;", 3100), 2, 4);
        fault(padded(padded("a=5;", 2999) + "$", 3100), 1, 2999);
        fault(padded(padded("a=5;", 2999) + ";", 3100), 2, 2999);
        fault(padded(padded("a=5;", 3000) + ";", 3100), 1, 3000);
        fault(padded(padded("a=", 2999) + "5;", 3100), 1, 3000);
        fine(padded("a=", 2998) + "5;", 1);
        // A token that begins ahead of 3000 is read whole.
        fault(padded(padded("a=", 2998) + "200b;", 3100), 3, 2998);
        fault(padded(padded("a=", 2998) + "100b;", 3100), 1, 3000);
        fault(padded(padded("a=", 2999) + "falsehood;", 3100), 1, 2999);
        fault(padded(padded("a=", 2999) + "falsehoo;", 3100), 2, 2999);
        fault(padded(padded("a=", 2999) + "false;", 3100), 1, 3000);
        fault(padded(padded("a=", 2997) + "5xyz;", 3100), 1, 2997);
        fault(padded("a=is b flier", 3001), 3, 7);
        String exact = "a=5;".repeat(99) + padded("", 2600) + "a=5;";
        fine(exact, 100);
        fault(exact + "a", 1, 3000);
    }

    /** A FAULT leaves tape, PROGRAM, VARS and what was run as they were. */
    private static void allStays() {
        Trial t = Trial.ran("guess none a=7;guess index take missing b=a[0];mark 5;");
        t.spell(0);
        String before = state(t);
        Trial.due("compile of a faulty text", t.compile("zz=5;"), -1);
        Trial.due("fault", t.x.fault(), 2);
        Trial.due("tape stays", t.x.count(1), 5);
        Trial.dueText("all else stays", state(t), before);
        Trial.due("compile again", t.x.compile(), -1);
        Trial.due("cut", t.x.end(0), true);
        Trial.due("compile of nothing", t.x.compile(), -1);
        Trial.dueText("all else stays", state(t), before);
        Trial.due("run of the old one", t.runAgain(), 2);
        Trial.due("a fine one", t.compile("c=1;d=2;e=3;"), 3);
        Trial.due("no fault", t.x.fault(), 0);
        Trial.due("VARS are none", t.cls('a'), -1);
        Trial.due("nothing run", t.outcome(0), -1);
        for (int what = 3; what <= 9; what++) {
            Trial.due("count(" + what + ")", t.x.count(what), 0);
        }
        Trial.due("no mark", t.x.mark(0, 0), -1);
        Trial.due("OUT stays", t.x.count(2), 17);
        Trial.due("steps", t.x.count(0), 3);
    }

    private static String state(Trial t) {
        StringBuilder s = new StringBuilder();
        s.append(t.outcomes()).append(' ').append(t.number('a')).append(' ').append(t.marked(0));
        for (int what = 0; what <= 9; what++) {
            s.append(' ').append(what == 1 ? 0 : t.x.count(what));
        }
        for (int k = 0; k < 3; k++) {
            s.append(' ').append(t.step(k, 0)).append(t.step(k, 1)).append(t.step(k, 2)).append(t.step(k, 3));
        }
        return s.toString();
    }
}
