/** Section 2 of the document, PROGRAMS: a test for each sentence of it that names a boundary. */
public final class TextEdgeTest {
    private static final String[] REFUSALS = "missing index size store cast unlike large".split(" ");
    private static final String[] KINDS = "truth byte short char int long float double".split(" ");
    private static final String[] CREATURES = "beast cat lion dog bird duck bat".split(" ");

    public static void main(String[] args) {
        textLength();
        blanks();
        words();
        numberTokens();
        signs();
        wordsAndNumbersGoOn();
        vars();
        stepCount();
        guessAndTake();
        acts();
        atoms();
        places();
        indexes();
        lengths();
        kindsNamesClasses();
        firstAlongTheText();
        leastOfOneToken();
        noToken();
        noTokenAt3000();
        cantCome();
        theEnd();
        numbersThatKindsHaveNot();
        letterForAnInt();
        classOfDimsNone();
        tooMany();
        Trial.finish("TextEdgeTest");
    }

    private static String padded(String text, int size) {
        return text + " ".repeat(size - text.length());
    }

    private static void textLength() {
        Trial.sentence("Text of at most 3000 bytes");
        Trial.fine(padded("a=5;", 2999), 1);
        Trial.fine(padded("a=5;", 3000), 1);
        Trial.fault(padded("a=5;", 3001), 1, 3000);
        Trial.fine(padded("", 2996) + "a=5;", 1);
        Trial.fault(padded("", 2997) + "a=5;", 1, 3000);
        String full = ("a=new int[1][1][1];fill a with none;".repeat(50) + "\n".repeat(3000)).substring(0, 3000);
        Trial.fine(full, 100);
        Trial t = new Trial();
        t.compile(padded("", 2996) + "a=5;");
        Trial.due("place of the last that can be", t.step(0, 3), 2996);
        Trial.dueText("its text", t.spelled(0), "a = 5;");
    }

    private static void blanks() {
        Trial.sentence("TOKENS, blanks (10, 32) between them or not");
        Trial.fine("a=b;", 1);
        Trial.fine(" a = b ; ", 1);
        Trial.fine("\na\n=\nb\n;\n", 1);
        Trial.fine("\n  \n a \n\n=  b\n ;", 1);
        Trial.fine("a=b[- 1];a=b[-\n1];", 2);
        for (int b = 0; b <= 32; b++) {
            if (b != 10 && b != 32) {
                Trial.fault("a" + (char) b + "=b;", 1, 1);
                Trial.fault((char) b + "a=b;", 1, 0);
                Trial.fault("a=b;" + (char) b, 1, 4);
            }
        }
        Trial.fault("a\u00a0=b;", 1, 1);
        Trial.fault("a=ne w int[1];", 2, 2);
        Trial.fault("a=1 2;", 2, 4);
        Trial.fault("a=1 b;", 2, 4);
        Trial.fault("turna;", 2, 0);
        Trial.fine("turn a;", 1);
    }

    private static void words() {
        Trial.sentence("WORDS: small letters, 8 at most");
        Trial.faultAt("!abcdefgh=5;", 2);
        Trial.faultAt("!abcdefghi=5;", 1);
        Trial.faultAt("a=!zzzzzzzz;", 2);
        Trial.faultAt("a=!zzzzzzzzz;", 1);
        Trial.faultAt("a=!" + "z".repeat(2000) + ";", 1);
        Trial.faultAt("a=is b !swimmers;", 2);
        Trial.faultAt("a=is b !swimmersx;", 1);
        Trial.faultAt("!A=5;", 1);
        Trial.faultAt("a=!tru;", 2);
        Trial.faultAt("turn!A;", 1);
        // The bytes next to the small letters and to the digits.
        for (char c : "`{/:@".toCharArray()) {
            Trial.faultAt("a!" + c + "=5;", 1);
            Trial.faultAt("a=5!" + c + ";", 1);
        }
        Trial.fine("a=z;z=a;", 2);
        Trial.fine("a=0;a=9;", 2);
    }

    private static void numberTokens() {
        Trial.sentence("NUMBERS: 1 to 19 digits and perhaps one of b s c l f d (byte, short, char, long, float, double; "
            + "else int)");
        String zeros = "0".repeat(18);
        String[] letters = {"b", "s", "c", "", "l", "f", "d"};
        for (int n = 0; n < letters.length; n++) {
            Trial.fine("a=7" + letters[n] + ";", 1);
            Trial.fine("a=" + zeros + "7" + letters[n] + ";", 1);
            Trial.faultAt("a=!0" + zeros + "7" + letters[n] + ";", 1);
            Trial.due("KIND of 7" + letters[n], Trial.ran("a=7" + letters[n] + ";").cls('a'), n + 1);
        }
        for (char c = 'a'; c <= 'z'; c++) {
            if ("bsclfd".indexOf(c) < 0) {
                Trial.faultAt("a=!7" + c + ";", 1);
                Trial.faultAt("a=!1234567890123456789" + c + ";", 1);
            }
        }
        Trial.faultAt("a=7!B;", 1);
        Trial.faultAt("a=!7bb;", 1);
        Trial.faultAt("a=!7lf;", 1);
        Trial.faultAt("a=!7b7;", 1);
        Trial.faultAt("a=!7b7b;", 1);
        Trial.is("a=9223372036854775807l;", 'a', Long.MAX_VALUE);
        Trial.faultAt("a=!9999999999999999999l;", 3);
        Trial.faultAt("a=!10000000000000000000l;", 1);
    }

    private static void signs() {
        Trial.sentence("SIGNS [ ] = ; -");
        for (int b = 33; b < 256; b++) {
            char c = (char) b;
            boolean small = c >= 'a' && c <= 'z' || c >= '0' && c <= '9';
            if (!small) {
                // None of them can come first: a SIGN is FAULT 2 there, another byte FAULT 1.
                Trial.fault(c + "a=5;", "[]=;-".indexOf(c) >= 0 ? 2 : 1, 0);
            }
        }
        Trial.faultAt("a=!=5;", 2);
        Trial.faultAt("a=-!-5;", 2);
        Trial.faultAt("a=5;!;", 2);
    }

    private static void wordsAndNumbersGoOn() {
        Trial.sentence("(WORDS and NUMBERS go on as long as small letters and digits do; where it is not as told then it is "
            + "no TOKEN.)");
        Trial.faultAt("!a1=5;", 1);
        Trial.faultAt("a=!b1;", 1);
        Trial.faultAt("a=!1a;", 1);
        Trial.faultAt("a=!1true;", 1);
        Trial.faultAt("a=!true1;", 1);
        Trial.faultAt("a=!5bturn;", 1);
        Trial.faultAt("a=b[!1to];", 1);
        Trial.faultAt("copy a[1]to b[2]!for3;", 1);
        Trial.faultAt("!markb1;", 1);
        Trial.faultAt("!mark5;", 1);
        Trial.faultAt("!marka;", 2);
        Trial.fine("mark-5;", 1);
        Trial.fine("copy a[1]to b[2]for-3;", 1);
        Trial.faultAt("a=!abcdefgh9;", 1);
    }

    private static void vars() {
        Trial.sentence("VAR: a WORD of one letter");
        for (char v = 'a'; v <= 'z'; v++) {
            Trial.is(v + "=" + (v - 'a') + ";", v, v - 'a');
            Trial t = Trial.ran(v + "=5;");
            for (char w = 'a'; w <= 'z'; w++) {
                Trial.due(w + " behind " + v + "=5", t.cls(w), v == w ? 4 : -1);
            }
        }
        Trial.faultAt("!ab=5;", 2);
        Trial.faultAt("a=!ab;", 2);
        Trial.faultAt("a=b[!ab];", 2);
        Trial.faultAt("turn !aa;", 2);
    }

    private static void stepCount() {
        Trial.sentence("PROGRAM: { STEP }, 1 to 100");
        Trial.fault("", 2, 0);
        Trial.fine("a=5;", 1);
        Trial.fine("a=5;".repeat(99), 99);
        Trial.fine("a=5;".repeat(100), 100);
        Trial.fault("a=5;".repeat(101), 4, 400);
        Trial t = new Trial();
        t.compile("a=5;".repeat(99) + "b=6;");
        Trial.due("run() of 100 STEPS", t.runAgain(), 0);
        Trial.due("what the last one did", t.number('b'), 6);
        Trial.due("STEPS that it came to", t.x.count(6), 100);
    }

    private static void guessAndTake() {
        Trial.sentence("STEP: [ 'guess' ( 'none' | REFUSAL ) ] [ 'take' REFUSAL ] ACT ; REFUSAL: 1 'missing' .. 7 'large'");
        for (int r = 1; r <= 7; r++) {
            Trial t = new Trial();
            t.compile("guess " + REFUSALS[r - 1] + " take " + REFUSALS[7 - r] + " a=5;guess none take " + REFUSALS[r - 1]
                + " a=5;guess " + REFUSALS[r - 1] + " a=5;take " + REFUSALS[r - 1] + " a=5;a=5;");
            int[][] due = {{r, 8 - r}, {0, r}, {r, 0}, {-1, r}, {-1, 0}};
            for (int k = 0; k < due.length; k++) {
                Trial.due("guess of STEP " + k, t.step(k, 1), due[k][0]);
                Trial.due("take of STEP " + k, t.step(k, 2), due[k][1]);
            }
        }
        Trial.faultAt("take !none a=5;", 2);
        Trial.faultAt("guess !true a=5;", 2);
        Trial.faultAt("guess !a=5;", 2);
        Trial.faultAt("take !a=5;", 2);
        Trial.faultAt("guess !take index a=5;", 2);
        Trial.faultAt("take index !guess none a=5;", 2);
        Trial.faultAt("guess none !guess none a=5;", 2);
        Trial.faultAt("take index !take size a=5;", 2);
        Trial.faultAt("guess none!;", 2);
        Trial.faultAt("take large!;", 2);
        Trial.faultAt("guess !1 a=5;", 2);
        Trial.faultAt("guess none !none a=5;", 2);
    }

    private static void acts() {
        Trial.sentence("ACT: 1 .. 21");
        String[] acts = {"a=b;", "a=b[1];", "a[1]=b;", "a=read int b[1];", "write int a[1]=b;", "a=get b[1];",
            "put a[1]=b;", "a=new int[1];", "a=clone b;", "a=cast b int;", "a=is b int;", "a=same b c;", "a=size b;",
            "a=class b;", "a=hash b;", "a=equal b c;", "copy a[1] to b[1] for 1;", "fill a with b;", "swap a[1][1];",
            "turn a;", "mark a;"};
        for (int k = 0; k < acts.length; k++) {
            Trial t = new Trial();
            Trial.due("compile() of " + acts[k], t.compile(acts[k]), 1);
            Trial.due("ACT of " + acts[k], t.step(0, 0), k + 1);
        }
        Trial.faultAt("a !b;", 2);
        Trial.faultAt("a !a=5;", 2);
        Trial.faultAt("a!;", 2);
        Trial.faultAt("a !-5;", 2);
        Trial.faultAt("a=!;", 2);
        Trial.faultAt("a=b!=c;", 2);
        for (String word : "read get new clone cast is same size class hash equal".split(" ")) {
            Trial.faultAt("!" + word + " b;", 2);
        }
        for (String word : "write put copy fill swap turn mark guess take to for with".split(" ")) {
            Trial.faultAt("a=!" + word + " b;", 2);
        }
    }

    private static void atoms() {
        Trial.sentence("ATOM: VAR | [ - ] NUMBER | 'true' | 'false' | 'none' | the name of a KIND of CREATURES (a new one, "
            + "each time)");
        for (String ahead : new String[] {"a=", "a[1]=", "put a[1]=", "write int a[1]=", "fill a with ", "mark "}) {
            for (String atom : "b 5 -5 -5l true false none beast cat lion dog bird duck bat".split(" ")) {
                Trial.fine(ahead + atom + ";", 1);
            }
            for (String other : "flier swimmer int truth index to guess write zz ] = ;".split(" ")) {
                Trial.faultAt(ahead + "!" + other + ";", 2);
            }
            for (String other : "b true false none cat - ;".split(" ")) {
                Trial.faultAt(ahead + "-!" + other + ";", 2);
            }
            Trial.faultAt(ahead + "5!-;", 2);
            Trial.faultAt(ahead + "5![1];", 2);
            Trial.faultAt(ahead + "b !b;", 2);
        }
        Trial t = Trial.ran("a=cat;b=cat;");
        Trial.due("a new one, each time", t.x.same(0, -1, 1, -1), false);
    }

    private static void places() {
        Trial.sentence("PLACE: VAR AT { AT }, 3 AT at most. AT: [ INDEX ]");
        String[][] around = {{"x=", ";"}, {"", "=5;"}, {"x=read int ", ";"}, {"write int ", "=5;"}, {"x=get ", ";"},
            {"put ", "=5;"}};
        for (String[] p : around) {
            for (int n = 1; n <= 3; n++) {
                Trial.fine(p[0] + "a" + "[1]".repeat(n) + p[1], 1);
            }
            Trial.faultAt(p[0] + "a[1][1][1]![1]" + p[1], 4);
            Trial.faultAt(p[0] + "a[1][1][1]![]" + p[1], 4);
            Trial.faultAt(p[0] + "a[!]" + p[1], 2);
            Trial.faultAt(p[0] + "a[1][!]" + p[1], 2);
            Trial.faultAt(p[0] + "a[1!;" + p[1], 2);
            Trial.faultAt(p[0] + "a[1 !2]" + p[1], 2);
            Trial.faultAt(p[0] + "a[1]!]" + p[1], 2);
            Trial.faultAt(p[0] + "a[b![1]]" + p[1], 2);
            Trial.faultAt(p[0] + "a!]" + p[1], 2);
        }
        for (String ahead : new String[] {"x=read int a", "x=get a"}) {
            Trial.faultAt(ahead + "!;", 2);
        }
        for (String ahead : new String[] {"put a", "write int a"}) {
            Trial.faultAt(ahead + "!=5;", 2);
        }
    }

    private static void indexes() {
        Trial.sentence("INDEX: VAR | [ - ] NUMBER (an int)");
        for (String[] p : new String[][] {{"x=a[", "];"}, {"a[0][", "]=5;"}, {"x=new int[", "];"},
                {"x=new int[1][", "];"}, {"copy a[", "] to b[0] for 1;"}, {"copy a[0] to b[", "] for 1;"},
                {"copy a[0] to b[0] for ", ";"}, {"swap a[", "][0];"}, {"swap a[0][", "];"}}) {
            for (String index : "b z 0 -0 5 -5 2147483647 -2147483648 0000000002147483647".split(" ")) {
                Trial.fine(p[0] + index + p[1], 1);
            }
            for (String other : "true none cat zz [ ; =".split(" ")) {
                Trial.faultAt(p[0] + "!" + other + p[1], 2);
            }
            Trial.faultAt(p[0] + "-!b" + p[1], 2);
            Trial.faultAt(p[0] + "-!-5" + p[1], 2);
            Trial.faultAt(p[0] + "!2147483648" + p[1], 3);
            Trial.faultAt(p[0] + "-!2147483649" + p[1], 3);
        }
    }

    private static void lengths() {
        Trial.sentence("LENGTHS: AT { AT } { [ ] }, 3 in all at most");
        for (String lengths : "[1] [1][1] [1][1][1] [1][] [1][][] [1][1][] [i][-1][]".split(" ")) {
            Trial.fine("a=new int" + lengths + ";", 1);
        }
        for (String lengths : new String[] {"!;", "[!];", "[!][1];", "[1][][!1];", "[1][][!i];", "[1][][!-1];", "[1 !1];",
                "[1!;", "[1][!;", "[1][1][!;", "[1][]!];", "[1]!=5;", "[1][][!99999999999];"}) {
            Trial.faultAt("a=new int" + lengths, 2);
        }
        for (String lengths : new String[] {"[1][1][1]![1];", "[1][1][1]![];", "[1][1][]![];", "[1][][]![];",
                "[1][][]![1];"}) {
            Trial.faultAt("a=new flier" + lengths, 4);
        }
    }

    private static void kindsNamesClasses() {
        Trial.sentence("KIND: the name of one below 8; NAME: that of any; CLASS: NAME { [ ] }, 3 [ ] at most");
        for (String kind : KINDS) {
            Trial.fine("a=read " + kind + " b[1];write " + kind + " b[1]=5;a=new " + kind + "[1];a=is b " + kind + ";", 4);
        }
        for (String name : (String.join(" ", CREATURES) + " flier swimmer").split(" ")) {
            Trial.faultAt("a=read !" + name + " b[1];", 2);
            Trial.faultAt("write !" + name + " b[1]=5;", 2);
            Trial.fine("a=new " + name + "[1];a=is b " + name + "[];a=cast b " + name + "[][][];", 3);
            Trial.faultAt("a=cast b " + name + "[][][]![];", 4);
            Trial.faultAt("a=is b " + name + "[][][]![1];", 4);
            Trial.faultAt("a=is b " + name + "[!1];", 2);
            Trial.faultAt("a=is b " + name + "[]!];", 2);
        }
        for (String other : "none true b to zz size 5 [ ;".split(" ")) {
            Trial.faultAt("a=read !" + other + " b[1];", 2);
            Trial.faultAt("a=new !" + other + "[1];", 2);
            Trial.faultAt("a=is b !" + other + ";", 2);
        }
        Trial.faultAt("a=read int![1];", 2);
    }

    private static void firstAlongTheText() {
        Trial.sentence("FAULTS, the first along the text");
        Trial.faultAt("a=!200b;$;;", 3);
        Trial.faultAt("a=!$;200b", 1);
        Trial.faultAt("!; $", 2);
        Trial.faultAt("a=b[1][2][3]![4];$", 4);
        Trial.faultAt("a=is b !flier $", 3);
        Trial.faultAt("a=is b !flier ]", 3);
        Trial.faultAt("a=is b !flier", 3);
        Trial.faultAt("a=is b !flier;200b", 3);
        Trial.faultAt("a=5;".repeat(100) + "!a=$", 4);
        Trial.faultAt("a=5;".repeat(99) + "a=!$;b=5;", 1);
        Trial.faultAt("take index a=5;".repeat(8) + "!take $", 4);
        Trial.faultAt("a=-!$ 200b;", 1);
        Trial.faultAt("a=b[!9999999999 $", 3);
    }

    private static void leastOfOneToken() {
        Trial.sentence("of one TOKEN the least");
        String hundred = "a=5;".repeat(100);
        // No TOKEN, one that can't come, and one too many, all at the 101st STEP's first byte.
        Trial.faultAt(hundred + "!$", 1);
        Trial.faultAt(hundred + "!5x", 1);
        Trial.faultAt(hundred + "!;", 2);
        Trial.faultAt(hundred + "!zz", 2);
        Trial.faultAt(hundred + "!200b", 2);
        Trial.faultAt(hundred + "!read", 2);
        Trial.faultAt(hundred + "!new", 2);
        for (String word : "a z guess take write put copy fill swap turn mark".split(" ")) {
            Trial.faultAt(hundred + "!" + word, 4);
        }
        // A NUMBER that its KIND has not, where no NUMBER can come; a ninth take where no take can come.
        Trial.faultAt("a=new int[1][][!99999999999];", 2);
        Trial.faultAt("a=b !200b;", 2);
        Trial.faultAt("take index a=5;".repeat(8) + "a=!take", 2);
        Trial.faultAt("take index a=5;".repeat(8) + "guess !take", 2);
        // A third [ where there are two at most can't come; a fourth one where there are three is too many.
        Trial.faultAt("swap a[1][1]![1];", 2);
        Trial.faultAt("copy a[1]![1] to b[1] for 1;", 2);
        // A NUMBER with a letter and too large is one FAULT.
        Trial.faultAt("a=b[!99999999999b];", 3);
    }

    private static void noToken() {
        Trial.sentence("1 no TOKEN (at its first byte ..)");
        Trial.faultAt("!$", 1);
        Trial.faultAt("  !$", 1);
        Trial.faultAt("a=5;\n !\u00ff", 1);
        Trial.faultAt("a=!12345678901234567890;", 1);
        Trial.faultAt("a=!abcdefghij;", 1);
        Trial.faultAt("a=!12x34;", 1);
        Trial.faultAt("!$$$$", 1);
        Trial.fault("\0", 1, 0);
        Trial.fault("a=5;\0", 1, 4);
    }

    private static void noTokenAt3000() {
        Trial.sentence("of a text of more than 3000 bytes also at 3000, if no FAULT is ahead: a TOKEN that begins ahead of it "
            + "is read whole");
        for (int size : new int[] {3001, 3020, 3099, 3100}) {
            Trial.fault(padded("a=5;", size), 1, 3000);
            Trial.fault(padded("", size), 1, 3000);
            Trial.fault(padded("a=", size), 1, 3000);
            Trial.fault(padded("a=5;b", size), 1, 3000);
            Trial.fault(padded(padded("a=5;", 2999) + ";", size), 2, 2999);
            Trial.fault(padded(padded("a=5;", 2999) + "$", size), 1, 2999);
            Trial.fault(padded("a=5;".repeat(100), size), 1, 3000);
            Trial.fault(padded("a=5;".repeat(101), size), 4, 400);
            Trial.fault(padded("a=is b flier", size), 3, 7);
        }
        Trial.fault(padded(padded("a=5;", 3000) + "$", 3001), 1, 3000);
        Trial.fault(padded(padded("a=5;", 3000) + ";", 3001), 1, 3000);
        Trial.fault(padded(padded("a=5;", 3050) + "$", 3100), 1, 3000);
        String ahead = padded("a=", 2999);
        Trial.fault(ahead + "5;", 1, 3000);
        Trial.fault(ahead + "b;", 1, 3000);
        Trial.fault(ahead + "5bb", 1, 2999);
        Trial.fault(ahead + "5x", 1, 2999);
        Trial.fault(ahead + "200b", 3, 2999);
        Trial.fault(ahead + "100b", 1, 3000);
        Trial.fault(ahead + "99999999999", 3, 2999);
        Trial.fault(ahead + "true", 1, 3000);
        Trial.fault(ahead + "truer", 2, 2999);
        Trial.fault(ahead + "true1", 1, 2999);
        Trial.fault(ahead + "abcdefghi", 1, 2999);
        Trial.fault(ahead + "a".repeat(101), 1, 2999);
        Trial.fault(ahead + "0".repeat(18) + "1;", 1, 3000);
        Trial.fault(ahead + "0".repeat(19) + "1;", 1, 2999);
        Trial.fault(padded("a=is b", 2996) + "flier", 3, 2996);
        Trial.fault(padded("a=is b", 2996) + "flier[];", 3, 2996);
        Trial.fault(padded("a=is b", 2994) + "flier[];", 1, 3000);
        Trial.fault(padded("a=b[1][2][3]", 2999) + "[4", 4, 2999);
        Trial.fault(padded("a=5;".repeat(100), 2999) + "mark", 4, 2999);
        Trial.fault(padded("a=5;".repeat(100), 2999) + "marks", 2, 2999);
    }

    private static void cantCome() {
        Trial.sentence("2 a TOKEN that can't come");
        Trial.faultAt("!5=a;", 2);
        Trial.faultAt("!none;", 2);
        Trial.faultAt("a=5 !6;", 2);
        Trial.faultAt("a=5![1];", 2);
        Trial.faultAt("a=same b!;", 2);
        Trial.faultAt("a=same b c !d;", 2);
        Trial.faultAt("a=clone !5;", 2);
        Trial.faultAt("a=size b![0];", 2);
        Trial.faultAt("copy a !to b[0] for 1;", 2);
        Trial.faultAt("copy a[0] to b !for 1;", 2);
        Trial.faultAt("copy a[0] to b[0]!;", 2);
        Trial.faultAt("fill a !5;", 2);
        Trial.faultAt("swap a[0]!;", 2);
        Trial.faultAt("turn !5;", 2);
        Trial.faultAt("mark a!=5;", 2);
    }

    private static void theEnd() {
        Trial.sentence("(the end too, at how many bytes there are; a text without STEPS)");
        Trial.fault("", 2, 0);
        Trial.fault(" ", 2, 1);
        Trial.fault("\n\n", 2, 2);
        Trial.fault(padded("", 2999), 2, 2999);
        Trial.fault(padded("", 3000), 2, 3000);
        Trial.fault("a", 2, 1);
        Trial.fault("a=5", 2, 3);
        Trial.fault("a=5  ", 2, 5);
        Trial.fault("a=5;b=", 2, 6);
        Trial.fault("a=5;guess none", 2, 14);
        Trial.fault("a=5;guess none\n", 2, 15);
        Trial.fault("a=-", 2, 3);
        Trial.fault("a=b[", 2, 4);
        Trial.fault("a=b[1]", 2, 6);
        Trial.fault(padded("a=5", 3000), 2, 3000);
        Trial.fault("a=5;".repeat(99) + "a=5", 2, 399);
    }

    private static void numbersThatKindsHaveNot() {
        Trial.sentence("3 a NUMBER that its KIND has not (with its - ; at its digits; of f and d as of l ..)");
        String[][] edges = {{"127", "128", "b"}, {"32767", "32768", "s"}, {"2147483647", "2147483648", ""},
            {"9223372036854775807", "9223372036854775808", "l"}, {"9223372036854775807", "9223372036854775808", "f"},
            {"9223372036854775807", "9223372036854775808", "d"}};
        for (String[] e : edges) {
            String over = e[1].substring(0, e[1].length() - 1) + "9";
            for (String ahead : new String[] {"a=", "a[0]=", "put a[0]=", "write int a[0]=", "fill a with ", "mark "}) {
                Trial.fine(ahead + e[0] + e[2] + ";", 1);
                Trial.faultAt(ahead + "!" + e[1] + e[2] + ";", 3);
                Trial.fine(ahead + "-" + e[1] + e[2] + ";", 1);
                Trial.faultAt(ahead + "-!" + over + e[2] + ";", 3);
                Trial.faultAt(ahead + " - \n !" + over + e[2] + ";", 3);
                Trial.faultAt(ahead + "!9999999999999999999" + e[2] + ";", 3);
                Trial.faultAt(ahead + "-!9999999999999999999" + e[2] + ";", 3);
            }
        }
        Trial.fine("a=0c;a=-0c;a=65535c;", 3);
        Trial.faultAt("a=-!1c;", 3);
        Trial.faultAt("a=!65536c;", 3);
        Trial.faultAt("a=-!65535c;", 3);
        // As many as a long can't tell from those that it has.
        Trial.faultAt("a=!4294967296;", 3);
        Trial.faultAt("a=!256b;", 3);
        Trial.faultAt("a=!65536s;", 3);
        Trial.faultAt("a=!9223372036854775809l;", 3);
    }

    private static void letterForAnInt() {
        Trial.sentence("also one with a letter where an int must stand");
        for (String letter : "b s c l f d".split(" ")) {
            for (String[] p : new String[][] {{"x=a[", "];"}, {"a[0][", "]=5;"}, {"x=new int[", "];"},
                    {"x=new int[1][", "];"}, {"copy a[", "] to b[0] for 1;"}, {"copy a[0] to b[", "] for 1;"},
                    {"copy a[0] to b[0] for ", ";"}, {"swap a[", "][0];"}, {"swap a[0][", "];"},
                    {"x=get a[", "];"}, {"put a[", "]=5;"}, {"x=read int a[", "];"}, {"write int a[", "]=5;"}}) {
                Trial.faultAt(p[0] + "!0" + letter + p[1], 3);
                Trial.faultAt(p[0] + "-!1" + letter + p[1], 3);
            }
            Trial.fine("a=1" + letter + ";", 1);
        }
    }

    private static void classOfDimsNone() {
        Trial.sentence("a CLASS of DIMS 0 with flier or swimmer (at that word)");
        for (String name : new String[] {"flier", "swimmer"}) {
            for (String act : new String[] {"a=is b ", "a=cast b "}) {
                Trial.faultAt(act + "!" + name + ";", 3);
                Trial.faultAt(act + "  !" + name + " \n ;", 3);
                Trial.fine(act + name + "[];" + act + name + "\n[\n];" + act + name + "[][][];", 3);
                Trial.faultAt(act + name + "[!;", 2);
                Trial.faultAt(act + name + "[!", 2);
            }
            // No CLASS stands behind new, but a NAME and LENGTHS.
            Trial.faultAt("a=new " + name + "!;", 2);
            Trial.faultAt("a=new " + name + "!", 2);
        }
        for (String name : CREATURES) {
            Trial.fine("a=is b " + name + ";a=cast b " + name + ";", 2);
        }
    }

    private static void tooMany() {
        Trial.sentence("4 a 101st STEP (at its first TOKEN), a ninth take, a fourth [ (at it)");
        Trial.faultAt("a=5;".repeat(100) + "\n !guess none a=5;", 4);
        Trial.faultAt("a=5;".repeat(100) + "!take index a=5;", 4);
        Trial.faultAt("a=5;".repeat(100) + "!a", 4);
        Trial.fine("take index a=5;".repeat(8), 8);
        Trial.fine("take index a=5;".repeat(8) + "a=5;".repeat(92), 100);
        Trial.faultAt("take index a=5;".repeat(8) + "!take index a=5;", 4);
        Trial.faultAt("take index a=5;".repeat(8) + "a=5;guess none !take", 4);
        Trial.faultAt("a=5;".repeat(50) + "take cast a=5;".repeat(8) + "b=6; !take cast a=5;", 4);
        Trial.faultAt("x=a[1][1][1]![", 4);
        Trial.faultAt("x=new int[1][1][1]![", 4);
        Trial.faultAt("x=is a int[][][]![", 4);
        // The takes are counted anew for each text.
        Trial t = new Trial();
        for (int n = 0; n < 3; n++) {
            Trial.due("eight takes, time " + n, t.compile("take index a=5;".repeat(8)), 8);
            Trial.due("nine takes, time " + n, t.compile("take index a=5;".repeat(9)), -121);
        }
    }
}
