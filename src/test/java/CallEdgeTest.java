/** The promises of the document, 1 to 21: a test for each sentence of them that names a boundary. */
public final class CallEdgeTest {
    private static final int LEAST = Integer.MIN_VALUE;
    private static final int MOST = Integer.MAX_VALUE;
    private static final String[] TEXTS = {
        "guess none a=new int[2][3];guess index take index a[0][3]=5;mark a;b=a[1];b[2]=7;mark b;",
        "a=5;b=none;c=same b d;", "take missing a=b[0];a=-7l;", "x=cat;y=new beast[2];fill y with x;turn y;mark x;z=hash y;",
        "a=new flier[3];a[0]=duck;b=new bird[3];copy a[0] to b[1] for 2;swap b[0][1];", "guess cast a=none;a=cast b cat[];",
        "a=b[0];", "a=none;b=a;x=same a c;y=equal a b;", "mark 1;mark none;mark cat;mark true;",
        "a=new int[500];fill a with 9;b=clone a;c=equal a b;", "a=new int[500];b=a[499];a=new cat[2][2];b=a[1][1];",
        "guess large take large a=new int[501];guess size take size a=new int[-1];"};

    public static void main(String[] args) {
        newObject();
        feedBytes();
        feedTooMany();
        ends();
        compiles();
        faultyCompiles();
        faults();
        steps();
        spells();
        octets();
        runs();
        runsWithoutProgram();
        outcomes();
        looks();
        values();
        sames();
        marksOf();
        markedOf();
        namedTapes();
        namesOf();
        belowOf();
        storesOf();
        copiesOf();
        counts();
        countsBehindCompile();
        throwsChangeNothing();
        askingChangesNothing();
        oneObjectForMany();
        Trial.finish("CallEdgeTest");
    }

    private static void newObject() {
        Trial.sentence("Promise 1: An empty tape, no PROGRAM");
        Trial t = new Trial();
        Trial.due("tape", t.x.count(1), 0);
        Trial.due("STEPS", t.x.count(0), 0);
        Trial.due("OUT", t.x.count(2), 0);
        Trial.due("end(0)", t.x.end(0), true);
        Trial.due("end(1)", t.x.end(1), false);
        Trial.due("run()", t.runAgain(), Trial.ILLEGAL_STATE);
        Trial.due("step(0, 0)", t.step(0, 0), Trial.NO_SUCH);
        Trial.due("spell(0)", t.spell(0), Trial.NO_SUCH);
        Trial.due("octet(0)", t.octet(0), Trial.NO_SUCH);
        Trial.due("outcome(0)", t.outcome(0), Trial.NO_SUCH);
        Trial.due("named()", t.x.named(), -1);
        Trial.due("compile()", t.x.compile(), -1);
        Trial.due("run() behind a FAULT", t.runAgain(), Trial.ILLEGAL_STATE);
        // Each object has its own.
        Trial u = Trial.ran("a=5;mark a;");
        Trial v = new Trial();
        Trial.due("VAR a of another object", v.cls('a'), -1);
        Trial.due("STEPS of another object", v.x.count(0), 0);
        v.run("a=7;");
        Trial.due("VAR a of the first", u.number('a'), 5);
    }

    private static void feedBytes() {
        Trial.sentence("Promise 2: Twenty bytes come behind the tape, of each number the highest first: how many it has");
        Trial t = new Trial();
        Trial.due("feed", t.x.feed(0x613d2d37, 0x3b20623d, 0x613b6d61, 0x726b2062, 0x3b202020), 20);
        Trial.due("compile", t.x.compile(), 3);
        t.runAgain();
        Trial.due("a", t.number('a'), -7);
        Trial.due("marked", t.marked(0), -7);
        // Bytes from 128 on are none of the signs that they have in common bits with.
        for (int number = 0; number < 5; number++) {
            for (int b = 0; b < 4; b++) {
                int[] n = {0x20202020, 0x20202020, 0x20202020, 0x20202020, 0x20202020};
                n[number] = n[number] | 0x80 << 8 * (3 - b);
                Trial u = new Trial();
                u.x.feed(n[0], n[1], n[2], n[3], n[4]);
                Trial.due("compile with 160 at " + (4 * number + b), u.x.compile(), -1 - (4 * number + b));
                Trial.due("its FAULT", u.x.fault(), 1);
            }
        }
        Trial u = new Trial();
        u.x.feed(-1, -1, -1, -1, -1);
        Trial.due("all bits", u.x.compile(), -1);
        Trial.due("its FAULT", u.x.fault(), 1);
    }

    private static void feedTooMany() {
        Trial.sentence("NONE, and none come, if it would have more than 3100");
        for (int size : new int[] {3061, 3079, 3080, 3081, 3099, 3100}) {
            Trial t = new Trial();
            for (int n = 0; n < 155; n++) {
                Trial.due("feed " + n, t.x.feed(0x20202020, 0x20202020, 0x20202020, 0x20202020, 0x20202020), 20 * n + 20);
            }
            Trial.due("end(" + size + ")", t.x.end(size), true);
            Trial.due("feed behind " + size, t.x.feed(0, 0, 0, 0, 0), size <= 3080 ? size + 20 : -1);
            Trial.due("tape", t.x.count(1), size <= 3080 ? size + 20 : size);
            Trial.due("feed once more", t.x.feed(0, 0, 0, 0, 0), -1);
        }
        Trial t = new Trial();
        t.tape(" ".repeat(3085) + "int[]");
        Trial.due("refused", t.x.feed(0x5b5d5b5d, 0, 0, 0, 0), -1);
        Trial.due("none came", t.x.named(), 24);
    }

    private static void ends() {
        Trial.sentence("Promise 3: The tape has its first n bytes alone: true; false, if it has not so many, or n is below 0");
        Trial t = new Trial();
        Trial.due("end(-1) of none", t.x.end(-1), false);
        t.tape("int[][][][][][][][][]");
        for (int n : new int[] {22, 3100, MOST, -1, LEAST}) {
            Trial.due("end(" + n + ")", t.x.end(n), false);
            Trial.due("tape stays", t.x.count(1), 21);
        }
        for (int n : new int[] {21, 20, 7, 5, 5}) {
            Trial.due("end(" + n + ")", t.x.end(n), true);
            Trial.due("tape", t.x.count(1), n);
            Trial.due("what is gone does not come again", t.x.end(n + 1), false);
        }
        Trial.due("int[]", t.x.named(), 24);
        t.tape("int[]");
        Trial.due("end(0)", t.x.end(0), true);
        Trial.due("nothing", t.x.named(), -1);
    }

    private static void compiles() {
        Trial.sentence("Promise 4: The tape (empty then) is the PROGRAM: how many STEPS, and all VARS none, nothing run yet");
        for (int steps : new int[] {1, 2, 99, 100}) {
            Trial t = Trial.ran("a=new int[3];b=cat;mark a;c=w[0];");
            Trial.due("compile() of " + steps, t.compile("z=7;".repeat(steps)), steps);
            Trial.due("tape", t.x.count(1), 0);
            Trial.due("end(1)", t.x.end(1), false);
            Trial.due("STEPS", t.x.count(0), steps);
            for (char v = 'a'; v <= 'z'; v++) {
                Trial.due("VAR " + v, t.cls(v), -1);
            }
            for (int k = 0; k < steps; k++) {
                Trial.due("outcome(" + k + ")", t.outcome(k), -1);
            }
            Trial.due("no MARK", t.x.mark(0, 0), -1);
            for (int what = 3; what <= 9; what++) {
                Trial.due("count(" + what + ")", t.x.count(what), 0);
            }
        }
        // The same text again is a PROGRAM that has not run.
        Trial t = Trial.ran("a=5;");
        t.compile("a=5;");
        Trial.due("VAR a", t.cls('a'), -1);
        Trial.due("outcome", t.outcome(0), -1);
    }

    private static void faultyCompiles() {
        Trial.sentence("-1 - the place of its FAULT: all stays");
        String[] faulty = {"", " ", "a", "a=5", "$", "zz=5;", "a=200b;", "a=is b flier;", "a=b[1][1][1][1];",
            "a=6;b=7;c=8;d=$", "guess cast take cast mark 9;mark", "a=5;".repeat(101)};
        int[] places = {0, 1, 1, 3, 0, 0, 2, 7, 12, 14, 32, 400};
        int[] kinds = {2, 2, 2, 2, 1, 2, 3, 3, 4, 1, 2, 4};
        for (String text : TEXTS) {
            Trial t = Trial.ran(text);
            t.spell(0);
            Trial.due("a fine compile", t.x.fault(), 0);
            String before = t.state();
            for (int n = 0; n < faulty.length; n++) {
                Trial.due("compile() of " + faulty[n], t.compile(faulty[n]), -1 - places[n]);
                Trial.due("its kind", t.x.fault(), kinds[n]);
                Trial.due("the tape stays", t.x.count(1), faulty[n].length());
                Trial.dueText("all stays", t.state().substring(1), before.substring(1));
                // The same tape, with what is told of it.
                Trial.due("compile() again", t.x.compile(), -1 - places[n]);
            }
            Trial u = Trial.ran(text);
            u.spell(0);
            u.runAgain();
            t.runAgain();
            Trial.dueText("run() of the PROGRAM that stayed", t.state().substring(1), u.state().substring(1));
        }
        Trial t = new Trial();
        t.compile("a=5");
        t.x.feed(0x3b202020, 0x20202020, 0x20202020, 0x20202020, 0x20202020);
        Trial.due("the tape that stayed, with its end", t.x.compile(), 1);
    }

    private static void faults() {
        Trial.sentence("Promise 5: The kind of the FAULT of the latest compile(); 0 without, and ahead of any");
        Trial t = new Trial();
        Trial.due("ahead of any", t.x.fault(), 0);
        String[] texts = {"$", "a=5;", ";", "a=200b;", "a=b[1][1][1][1];", "a=5;", "", "a=5;"};
        int[] due = {1, 0, 2, 3, 4, 0, 2, 0};
        for (int n = 0; n < texts.length; n++) {
            t.compile(texts[n]);
            Trial.due("FAULT of " + texts[n], t.x.fault(), due[n]);
            t.named("int[");
            t.named("int");
            t.runAgain();
            Trial.due("behind other calls", t.x.fault(), due[n]);
        }
        t.named("$");
        Trial.due("named() is no compile()", t.x.fault(), 0);
    }

    private static void steps() {
        Trial.sentence("Promise 6: STEP k: 0 its ACT, 1 the REFUSAL guessed (0 none; NONE without a guess), 2 the one that it "
            + "takes (0 without), 3 the place of its first byte in the text. NoSuchElementException: there is none such, or "
            + "another what");
        Trial t = new Trial();
        t.compile(" \na=5;\n\nguess none take large mark 1; guess large turn a;take missing a=5;");
        int[][] due = {{1, -1, 0, 2}, {21, 0, 7, 8}, {20, 7, 0, 38}, {1, -1, 1, 57}};
        for (int k = 0; k < 4; k++) {
            for (int what = 0; what < 4; what++) {
                Trial.due("step(" + k + ", " + what + ")", t.step(k, what), due[k][what]);
            }
            for (int what : new int[] {-1, 4, LEAST, MOST}) {
                Trial.due("step(" + k + ", " + what + ")", t.step(k, what), Trial.NO_SUCH);
            }
        }
        for (int k : new int[] {-1, 4, 100, LEAST, MOST}) {
            for (int what = -1; what <= 4; what++) {
                Trial.due("step(" + k + ", " + what + ")", t.step(k, what), Trial.NO_SUCH);
            }
        }
        t.compile("a=5;");
        Trial.due("a STEP of the PROGRAM ahead", t.step(1, 0), Trial.NO_SUCH);
        t.compile("a=5;".repeat(100));
        Trial.due("step(99, 3)", t.step(99, 3), 396);
        Trial.due("step(100, 3)", t.step(100, 3), Trial.NO_SUCH);
    }

    private static void spells() {
        Trial.sentence("Promise 7: its TOKENS with a blank between two of them, but none ahead of [ ] and ; , behind [ and "
            + "behind - ; NUMBERS without 0s ahead: how many bytes");
        String[][] due = {{"a=-0;", "a = -0;"}, {"a=00;", "a = 0;"}, {"a=-007b;", "a = -7b;"}, {"a=0l;", "a = 0l;"},
            {"a=000000000000000000l;", "a = 0l;"}, {"a=100;", "a = 100;"}, {"a=0000000000000000010d;", "a = 10d;"},
            {"a [ - 00 ] [ i ] [ 010 ] = - 0c ;", "a[-0][i][10] = -0c;"}, {"x = new int [ 1 ] [ ] [ ] ;", "x = new int[1][][];"},
            {"copy a[ 01 ]to b[ - 1 ]for - 01 ;", "copy a[1] to b[-1] for -1;"}, {"swap a [ 0 ] [ 00 ];", "swap a[0][0];"},
            {"guess\nnone\ntake\ncast\nx\n=\ncast\na\ncat\n[\n]\n;", "guess none take cast x = cast a cat[];"},
            {"fill a with-5;", "fill a with -5;"}, {"mark-5;", "mark -5;"}, {"write int a[1]=-2;", "write int a[1] = -2;"}};
        for (String[] d : due) {
            Trial t = new Trial();
            t.compile("b=5;" + d[0] + "c=6;");
            Trial.dueText("spell of " + d[0], t.spelled(1), d[1]);
            Trial.due("its bytes", t.spell(1), d[1].length());
            Trial.dueText("the STEP ahead", t.spelled(0), "b = 5;");
            Trial.dueText("the STEP behind", t.spelled(2), "c = 6;");
        }
        Trial t = new Trial();
        t.compile("a=5;b=6;");
        t.spell(1);
        for (int k : new int[] {-1, 2, 99, 100, LEAST, MOST}) {
            Trial.due("spell(" + k + ")", t.spell(k), Trial.NO_SUCH);
            Trial.due("OUT stays", t.octet(0), 'b');
        }
        String longest = "guess missing take missing write double z[-2147483648][-2147483648][-2147483648] = "
            + "-9223372036854775808d;";
        t.compile(longest.replace(" ", "   \n").replace("[", " [ ").replace("]", " ] ").replace("-", "-  "));
        Trial.dueText("the longest", t.spelled(0), longest);
        t.compile(" ".repeat(2996) + "a=5;");
        Trial.dueText("at the text's very end", t.spelled(0), "a = 5;");
    }

    private static void octets() {
        Trial.sentence("Promise 8: Byte i of OUT. NoSuchElementException: there is none such");
        Trial t = new Trial();
        t.compile("mark 5;a=5;");
        Trial.due("octet(0) of an empty OUT", t.octet(0), Trial.NO_SUCH);
        Trial.due("octet(-1) of an empty OUT", t.octet(-1), Trial.NO_SUCH);
        t.spell(0);
        Trial.due("octet(0)", t.octet(0), 'm');
        Trial.due("octet(6)", t.octet(6), ';');
        for (int i : new int[] {-1, 7, 255, 256, LEAST, MOST}) {
            Trial.due("octet(" + i + ")", t.octet(i), Trial.NO_SUCH);
        }
        t.spell(1);
        Trial.due("octet(5) of a shorter one", t.octet(5), ';');
        Trial.due("octet(6) of a shorter one", t.octet(6), Trial.NO_SUCH);
    }

    private static void runs() {
        Trial.sentence("Promise 9: The PROGRAM runs anew: 0, or 1 and the STEP whose REFUSAL ended it");
        for (int k : new int[] {0, 1, 50, 99}) {
            Trial t = new Trial();
            t.compile("a=5;".repeat(k) + "x=b[0];" + "a=6;".repeat(99 - k));
            for (int n = 0; n < 3; n++) {
                Trial.due("ended by STEP " + k, t.runAgain(), k + 1);
                Trial.due("STEPS that it came to", t.x.count(6), k + 1);
            }
        }
        Trial t = new Trial();
        t.compile("take missing x=a[0];a=new int[2];a[1]=7;mark a;b=cat;");
        for (int n = 0; n < 20; n++) {
            Trial.due("run " + n, t.runAgain(), 0);
            Trial.dueText("its outcomes", t.outcomes(), "10000");
            Trial.due("its MARKS", t.x.count(3), 1);
            Trial.due("its ARRAYS", t.x.count(4), 1);
        }
    }

    private static void runsWithoutProgram() {
        Trial.sentence("IllegalStateException: there is no PROGRAM");
        Trial t = new Trial();
        Trial.due("of a new object", t.runAgain(), Trial.ILLEGAL_STATE);
        t.tape("a=5;");
        Trial.due("of a tape alone", t.runAgain(), Trial.ILLEGAL_STATE);
        t.compile("a=5");
        Trial.due("behind a FAULT", t.runAgain(), Trial.ILLEGAL_STATE);
        t.named("int");
        Trial.due("behind named()", t.runAgain(), Trial.ILLEGAL_STATE);
        t.compile("a=5;");
        Trial.due("of a PROGRAM", t.runAgain(), 0);
        t.compile("a=");
        Trial.due("of the PROGRAM that stayed", t.runAgain(), 0);
    }

    private static void outcomes() {
        Trial.sentence("Promise 10: The REFUSAL of STEP k in the latest run of this PROGRAM (0: it was done); NONE if it did "
            + "not come to that. NoSuchElementException: there is no such STEP");
        String text = "take missing x=a[0];a=new int[1];take index x=a[1];take size x=new int[-1];c=new cat[1];"
            + "take store c[0]=dog;take cast x=cast c dog[];take unlike x=c;take unlike c[0]=5;take large x=new int[501];"
            + "x=cast c lion[];a=5;";
        Trial t = new Trial();
        t.compile(text);
        Trial.dueText("ahead of a run", t.outcomes(), "------------");
        t.runAgain();
        Trial.dueText("behind it", t.outcomes(), "10230450675-");
        for (int k : new int[] {-1, 12, 99, 100, LEAST, MOST}) {
            Trial.due("outcome(" + k + ")", t.outcome(k), Trial.NO_SUCH);
        }
        t.compile(text);
        Trial.dueText("compiled anew", t.outcomes(), "------------");
        t.compile("a=5;");
        Trial.due("a STEP of the PROGRAM ahead", t.outcome(1), Trial.NO_SUCH);
        t.run("a=5;".repeat(100));
        Trial.due("outcome(99)", t.outcome(99), 0);
        Trial.due("outcome(100)", t.outcome(100), Trial.NO_SUCH);
    }

    private static void look(Trial t, int[] path, int cls, int length) {
        String call = "look(" + path[0] + ", " + path[1] + ", " + path[2] + ", " + path[3] + ", ";
        Trial.due(call + "0)", t.x.look(path[0], path[1], path[2], path[3], 0), cls);
        Trial.due(call + "1)", t.x.look(path[0], path[1], path[2], path[3], 1), length);
        for (int what : new int[] {-2, -1, 2, LEAST, MOST}) {
            Trial.due(call + what + ")", t.x.look(path[0], path[1], path[2], path[3], what), -1);
        }
    }

    private static void looks() {
        Trial.sentence("Promise 11: Of VAR v (0 .. 25), at the path i, j, k (NONE: it ends there), what 0: the CLASS (NONE: "
            + "none is there; -2: no such path, VAR), 1: an ARRAY's length; NONE where there is none, and for another what");
        Trial t = Trial.ran("a=new cat[2][3][4];b=5;c=lion;d=new int[0];z=new int[2][];z[1]=d;e=a[1][2];e[3]=lion;");
        for (int v : new int[] {-1, -2, 26, 27, LEAST, MOST}) {
            look(t, new int[] {v, -1, -1, -1}, -2, -1);
            look(t, new int[] {v, 0, 0, 0}, -2, -1);
        }
        look(t, new int[] {0, -1, -1, -1}, 69, 2);
        look(t, new int[] {0, -1, 99, -7}, 69, 2);
        look(t, new int[] {0, 1, -1, -1}, 49, 3);
        look(t, new int[] {0, 1, -1, 99}, 49, 3);
        look(t, new int[] {0, 1, 2, -1}, 29, 4);
        look(t, new int[] {0, 1, 2, 3}, 10, -1);
        look(t, new int[] {0, 1, 2, 2}, -1, -1);
        for (int i : new int[] {-2, LEAST, MOST, 4}) {
            look(t, new int[] {0, i, -1, -1}, -2, -1);
            look(t, new int[] {0, i, 0, 0}, -2, -1);
            look(t, new int[] {0, 0, i, -1}, -2, -1);
            look(t, new int[] {0, 0, i, 0}, -2, -1);
            look(t, new int[] {0, 0, 0, i}, -2, -1);
        }
        look(t, new int[] {0, 2, -1, -1}, -2, -1);
        look(t, new int[] {0, 0, 3, -1}, -2, -1);
        look(t, new int[] {1, -1, -1, -1}, 4, -1);
        look(t, new int[] {1, 0, -1, -1}, -2, -1);
        look(t, new int[] {2, -1, -1, -1}, 10, -1);
        look(t, new int[] {2, 0, -1, -1}, -2, -1);
        look(t, new int[] {3, -1, -1, -1}, 24, 0);
        look(t, new int[] {3, 0, -1, -1}, -2, -1);
        look(t, new int[] {25, -1, -1, -1}, 44, 2);
        look(t, new int[] {25, 0, -1, -1}, -1, -1);
        look(t, new int[] {25, 0, 0, -1}, -2, -1);
        look(t, new int[] {25, 1, -1, -1}, 24, 0);
        look(t, new int[] {25, 1, 0, -1}, -2, -1);
        look(t, new int[] {24, -1, -1, -1}, -1, -1);
        look(t, new int[] {24, 0, -1, -1}, -2, -1);
    }

    private static void values() {
        Trial.sentence("Promise 12: The NUMBER there, of floats and doubles its whole number, 2^63 - 1 at most. "
            + "NoSuchElementException: there is no NUMBER");
        Trial t = Trial.ran("a=9223372036854775807d;b=-9223372036854775808d;c=9223372036854775807f;d=9223372036854775807l;"
            + "e=new double[1][1][2];f=e[0][0];f[1]=9223372036854775807l;g=true;h=65535c;i=-128b;j=cat;z=-1;k=new cat[1];"
            + "l=-9223372036854775808f;");
        long[] due = {Long.MAX_VALUE, Long.MIN_VALUE, Long.MAX_VALUE, Long.MAX_VALUE, Trial.NO_SUCH, Trial.NO_SUCH, 1, 65535,
            -128, Trial.NO_SUCH, Trial.NO_SUCH, Long.MIN_VALUE};
        for (int v = 0; v < due.length; v++) {
            Trial.due("value of VAR " + v, t.value(v, -1, -1, -1), due[v]);
            Trial.due("value of a CELL of VAR " + v, t.value(v, 0, -1, -1), v == 5 ? 0 : Trial.NO_SUCH);
        }
        Trial.due("e[0][0][1]", t.value(4, 0, 0, 1), Long.MAX_VALUE);
        Trial.due("e[0][0][0]", t.value(4, 0, 0, 0), 0);
        Trial.due("e[0][0][2]", t.value(4, 0, 0, 2), Trial.NO_SUCH);
        Trial.due("e[0][0]", t.value(4, 0, 0, -1), Trial.NO_SUCH);
        Trial.due("f[1]", t.value(5, 1, -1, -1), Long.MAX_VALUE);
        Trial.due("f[2]", t.value(5, 2, -1, -1), Trial.NO_SUCH);
        Trial.due("f[-2]", t.value(5, -2, -1, -1), Trial.NO_SUCH);
        Trial.due("f[1][0]", t.value(5, 1, 0, -1), Trial.NO_SUCH);
        Trial.due("none", t.value(24, -1, -1, -1), Trial.NO_SUCH);
        Trial.due("VAR 25", t.value(25, -1, -1, -1), -1);
        for (int v : new int[] {-1, 26, LEAST, MOST}) {
            Trial.due("VAR " + v, t.value(v, -1, -1, -1), Trial.NO_SUCH);
        }
    }

    private static void sames() {
        Trial.sentence("Promise 13: Whether the very same ARRAY or CREATURE is in VARS v and w, or in CELL i of v (NONE: in "
            + "v), CELL j of w likewise");
        Trial t = Trial.ran("a=new beast[2][];b=new cat[2];a[0]=b;b[1]=lion;c=b[1];d=b;e=5;f=5;g=new int[1];g[0]=5;z=c;h=cat;");
        // VAR and CELL of all that is the same: b, a[0], d; c, b[1], d[1], z.
        int[][] array = {{1, -1}, {0, 0}, {3, -1}};
        int[][] creature = {{2, -1}, {1, 1}, {3, 1}, {25, -1}};
        int[][] other = {{0, -1}, {0, 1}, {0, 2}, {0, -2}, {1, 0}, {1, 2}, {2, 0}, {4, -1}, {5, -1}, {6, 0}, {7, -1}, {8, -1},
            {-1, -1}, {26, -1}, {LEAST, -1}, {MOST, 0}, {25, 0}, {1, LEAST}, {1, MOST}};
        for (int[] p : array) {
            for (int[] q : array) {
                Trial.due("an ARRAY", t.x.same(p[0], p[1], q[0], q[1]), true);
            }
            for (int[] q : creature) {
                Trial.due("an ARRAY and a CREATURE", t.x.same(p[0], p[1], q[0], q[1]), false);
                Trial.due("a CREATURE and an ARRAY", t.x.same(q[0], q[1], p[0], p[1]), false);
            }
            for (int[] q : other) {
                Trial.due("an ARRAY and another", t.x.same(p[0], p[1], q[0], q[1]), false);
                Trial.due("another and an ARRAY", t.x.same(q[0], q[1], p[0], p[1]), false);
            }
        }
        for (int[] p : creature) {
            for (int[] q : creature) {
                Trial.due("a CREATURE", t.x.same(p[0], p[1], q[0], q[1]), true);
            }
            for (int[] q : other) {
                Trial.due("a CREATURE and another", t.x.same(p[0], p[1], q[0], q[1]), false);
            }
        }
        for (int n = 0; n < other.length; n++) {
            for (int m = 0; m < other.length; m++) {
                // Of these a and h alone hold an ARRAY or a CREATURE.
                boolean due = n == m && (n == 0 || n == 10);
                Trial.due("others " + n + " and " + m, t.x.same(other[n][0], other[n][1], other[m][0], other[m][1]), due);
            }
        }
        Trial.due("g", t.x.same(6, -1, 6, -1), true);
    }

    private static void marksOf() {
        Trial.sentence("Promise 14: Of MARK k what 0: the CLASS (NONE of none). NONE if there is none such, or for another what");
        Trial t = Trial.ran("mark none;mark true;mark bat;a=new swimmer[1][][];mark a;");
        int[] due = {-1, 0, 14, 76};
        for (int k = 0; k < 4; k++) {
            Trial.due("mark(" + k + ", 0)", t.x.mark(k, 0), due[k]);
            for (int what : new int[] {-1, 1, 2, LEAST, MOST}) {
                Trial.due("mark(" + k + ", " + what + ")", t.x.mark(k, what), -1);
            }
        }
        for (int k : new int[] {-1, 4, 49, 50, LEAST, MOST}) {
            Trial.due("mark(" + k + ", 0)", t.x.mark(k, 0), -1);
        }
        t.run("mark 5;");
        Trial.due("of a shorter run", t.x.mark(1, 0), -1);
        t.run("mark 5;".repeat(51));
        Trial.due("MARK 49", t.x.mark(49, 0), 4);
        Trial.due("MARK 50", t.x.mark(50, 0), -1);
        t.run("a=5;");
        Trial.due("of a run without", t.x.mark(0, 0), -1);
    }

    private static void markedOf() {
        Trial.sentence("Promise 15: The NUMBER that MARK k is, as value(). NoSuchElementException: it is none, or there is none "
            + "such");
        Trial t = Trial.ran("mark 9223372036854775807d;mark -9223372036854775808f;mark none;mark cat;a=new int[1];mark a;"
            + "mark false;mark 65535c;");
        long[] due = {Long.MAX_VALUE, Long.MIN_VALUE, Trial.NO_SUCH, Trial.NO_SUCH, Trial.NO_SUCH, 0, 65535};
        for (int k = 0; k < due.length; k++) {
            Trial.due("marked(" + k + ")", t.marked(k), due[k]);
        }
        for (int k : new int[] {-1, 7, 49, 50, LEAST, MOST}) {
            Trial.due("marked(" + k + ")", t.marked(k), Trial.NO_SUCH);
        }
        t.run("mark 5;".repeat(51));
        Trial.due("MARK 49", t.marked(49), 5);
        Trial.due("MARK 50", t.marked(50), Trial.NO_SUCH);
        t.run("a=5;");
        Trial.due("of a run without", t.marked(0), Trial.NO_SUCH);
    }

    private static void namedTapes() {
        Trial.sentence("Promise 16: The CLASS that the tape (empty then) names, blanks between its TOKENS or not; NONE if it "
            + "names none");
        Trial t = new Trial();
        String[] names = {"truth", "swimmer[]", "int [ ] [\n] []", " bat ", "\nflier[]\n", "cat[ ]"};
        int[] due = {0, 36, 64, 14, 35, 29};
        for (int n = 0; n < names.length; n++) {
            Trial.due("named " + names[n], t.named(names[n]), due[n]);
            Trial.due("the tape is empty then", t.x.count(1), 0);
            Trial.due("and names none", t.x.named(), -1);
        }
        for (String none : new String[] {"", " ", "\n", "flier", "swimmer", " flier ", "int[", "int]", "int[][][][]", "int[1]",
                "int[]]", "int int", "int;", "int.", "in t", "intx", "int1", "a", "none", "5", "[]", "[]int", "-int", "int\t",
                "int[]\0", "INT", "int,", "class", "guess", "swimmers", "int[ ] a", "int[]=", "int[][][][", "int[] []  [ ] ["}) {
            Trial.due("named " + none, t.named(none), -1);
            Trial.due("the tape is empty then, too", t.x.count(1), 0);
        }
        // The PROGRAM and its run stay.
        for (String text : TEXTS) {
            Trial u = Trial.ran(text);
            u.spell(0);
            String before = u.state();
            u.named("cat[][]");
            u.named("zz");
            Trial.dueText("all but the tape stays", u.state(), before);
            int steps = u.x.count(0);
            String last = u.spelled(steps - 1);
            u.spell(0);
            Trial fresh = Trial.ran(text);
            fresh.spell(0);
            u.runAgain();
            Trial.dueText("run() behind named()", u.state(), fresh.state());
            Trial.dueText("spell() behind named()", u.spelled(steps - 1), last);
        }
    }

    private static void namesOf() {
        Trial.sentence("Promise 17: Byte i of the name of a CLASS; NONE if there is none such");
        ArrayTrainer x = new ArrayTrainer();
        int[][] ends = {{0, 5, 'h'}, {4, 3, 't'}, {14, 3, 't'}, {20, 7, ']'}, {36, 9, ']'}, {76, 13, ']'}, {64, 9, ']'}};
        for (int[] e : ends) {
            Trial.due("the last byte of " + e[0], x.name(e[0], e[1] - 1), e[2]);
            for (int i : new int[] {-1, e[1], e[1] + 1, LEAST, MOST}) {
                Trial.due("name(" + e[0] + ", " + i + ")", x.name(e[0], i), -1);
            }
        }
        for (int of : new int[] {-1, 15, 16, 17, 19, 37, 39, 57, 77, 80, LEAST, MOST}) {
            for (int i = -1; i < 20; i++) {
                Trial.due("name(" + of + ", " + i + ")", x.name(of, i), -1);
            }
        }
    }

    private static void belowOf() {
        Trial.sentence("Promise 18: Whether CLASS a is BELOW b; false if either is none");
        ArrayTrainer x = new ArrayTrainer();
        for (int none : new int[] {-1, 15, 16, 17, 37, 80, LEAST, MOST}) {
            for (int other = -2; other <= 81; other++) {
                Trial.due("below(" + none + ", " + other + ")", x.below(none, other), false);
                Trial.due("below(" + other + ", " + none + ")", x.below(other, none), false);
            }
        }
        Trial.due("below(13, 12)", x.below(13, 12), true);
        Trial.due("below(12, 13)", x.below(12, 13), false);
        Trial.due("below(33, 36)", x.below(33, 36), true);
        Trial.due("below(0, 0)", x.below(0, 0), true);
    }

    private static void storesOf() {
        Trial.sentence("Promise 19: the REFUSAL, 0 if it is done; NONE if a is no CLASS of ARRAYS, or b none");
        ArrayTrainer x = new ArrayTrainer();
        for (int a : new int[] {-1, 0, 4, 14, 15, 16, 19, 37, 39, 57, 77, 80, LEAST, MOST}) {
            Trial.due("stores(" + a + ", 8)", x.stores(a, 8), -1);
            Trial.due("stores(" + a + ", -1)", x.stores(a, -1), -1);
        }
        for (int b : new int[] {-1, 15, 16, 17, 19, 37, 57, 77, 80, LEAST, MOST}) {
            for (int a : new int[] {20, 24, 28, 35, 36, 76}) {
                Trial.due("stores(" + a + ", " + b + ")", x.stores(a, b), -1);
            }
        }
        // Held against what a run does of it.
        Trial t = new Trial();
        for (int a = 20; a < 80; a++) {
            for (int b = 0; b < 80; b++) {
                if (a % 20 < 17 && t.x.below(b, b)) {
                    t.run(made('a', a, 1) + value('b', b) + "a[0]=b;");
                    Trial.due("stores(" + a + ", " + b + ")", t.x.stores(a, b), t.outcome(t.x.count(0) - 1));
                }
            }
        }
    }

    /** A STEP that makes an ARRAY of a CLASS in a VAR. */
    private static String made(char var, int cls, int length) {
        String name = new Trial().nameOf(cls);
        int bracket = name.indexOf('[');
        return var + "=new " + name.substring(0, bracket) + "[" + length + "]" + name.substring(bracket + 2) + ";";
    }

    private static String value(char var, int cls) {
        if (cls >= 20) {
            return made(var, cls, 0);
        }
        String name = new Trial().nameOf(cls);
        return var + "=" + (cls >= 8 ? name : "true 1b 1s 1c 1 1l 1f 1d".split(" ")[cls]) + ";";
    }

    private static void copiesOf() {
        Trial.sentence("Promise 20: likewise; NONE also where stores(a, b) is not 0");
        ArrayTrainer x = new ArrayTrainer();
        for (int none : new int[] {-1, 0, 8, 15, 16, 19, 37, 57, 77, 80, LEAST, MOST}) {
            Trial.due("copies(" + none + ", 8, 28)", x.copies(none, 8, 28), -1);
            Trial.due("copies(28, 8, " + none + ")", x.copies(28, 8, none), -1);
        }
        for (int none : new int[] {-1, 15, 16, 17, 37, 80, LEAST, MOST}) {
            Trial.due("copies(28, " + none + ", 28)", x.copies(28, none, 28), -1);
        }
        Trial.due("unlike to store", x.copies(24, 5, 24), -1);
        Trial.due("store to store", x.copies(29, 8, 28), -1);
        // Held against what a run does of it.
        Trial t = new Trial();
        int[] some = {20, 21, 24, 25, 27, 28, 29, 30, 31, 33, 35, 36, 40, 44, 45, 48, 49, 55, 56, 60, 64, 68, 73, 75, 76};
        for (int a : some) {
            for (int b = 0; b < 80; b++) {
                if (t.x.stores(a, b) == 0) {
                    for (int c : some) {
                        t.run(made('a', a, 1) + value('b', b) + "a[0]=b;" + made('c', c, 1) + "copy a[0] to c[0] for 1;");
                        Trial.due("copies(" + a + ", " + b + ", " + c + ")", t.x.copies(a, b, c), t.outcome(4));
                    }
                } else {
                    for (int c : some) {
                        Trial.due("copies(" + a + ", " + b + ", " + c + ")", t.x.copies(a, b, c), -1);
                    }
                }
            }
        }
    }

    private static void dueCounts(String when, Trial t, int... due) {
        for (int what = 0; what < due.length; what++) {
            Trial.due(when + ": count(" + what + ")", t.x.count(what), due[what]);
        }
        for (int what : new int[] {-1, 10, 11, LEAST, MOST}) {
            Trial.due(when + ": count(" + what + ")", t.x.count(what), -1);
        }
    }

    private static void counts() {
        Trial.sentence("Promise 21: 0 STEPS, 1 bytes of the tape, 2 of OUT, 3 MARKS of the latest run (those not kept, too), 4 "
            + "ARRAYS that it made, 5 their CELLS, 6 STEPS that it came to, 7 of these with a guess, 8 guesses that were "
            + "right, 9 REFUSALS that were taken. NONE for another what");
        Trial t = new Trial();
        dueCounts("new", t, 0, 0, 0, 0, 0, 0, 0, 0, 0, 0);
        t.run("guess none a=5;guess cast a=5;guess missing take missing x=b[0];guess none take missing x=b[0];"
            + "take missing x=b[0];guess missing x=b[0];guess none a=5;mark 1;");
        dueCounts("ended by a STEP with a right guess", t, 8, 0, 0, 0, 0, 0, 6, 5, 3, 3);
        t.run("mark 5;".repeat(51) + "take index x=5;");
        dueCounts("MARKS beyond 50", t, 52, 0, 0, 51, 0, 0, 52, 0, 0, 0);
        t.run("a=new int[2][3];b=clone a;c=new int[0];take large d=new int[501];take large d=new int[2][300];");
        dueCounts("ARRAYS", t, 5, 0, 0, 0, 5, 10, 5, 0, 0, 2);
        t.run("guess index take cast x=b[0];guess none a=5;");
        dueCounts("ended with a take of another", t, 2, 0, 0, 0, 0, 0, 1, 1, 0, 0);
        t.run("a=new int[198][0];b=new int[302];take large c=new int[0];");
        dueCounts("200 ARRAYS, 500 CELLS", t, 3, 0, 0, 0, 200, 500, 3, 0, 0, 1);
    }

    private static void countsBehindCompile() {
        Trial.sentence("(3 to 9: 0 behind compile() and ahead of it.)");
        Trial t = new Trial();
        t.tape("guess none a=new int[2];mark a;take missing b=c[0];");
        dueCounts("ahead of it", t, 0, 51, 0, 0, 0, 0, 0, 0, 0, 0);
        t.x.compile();
        dueCounts("behind it", t, 3, 0, 0, 0, 0, 0, 0, 0, 0, 0);
        t.runAgain();
        dueCounts("run", t, 3, 0, 0, 1, 1, 2, 3, 1, 1, 1);
        t.compile("a=5");
        dueCounts("behind one with a FAULT", t, 3, 3, 0, 1, 1, 2, 3, 1, 1, 1);
        t.compile("a=5;");
        dueCounts("behind another", t, 1, 0, 0, 0, 0, 0, 0, 0, 0, 0);
    }

    private static void throwing(Trial t) {
        String before = t.state();
        int tape = t.x.count(1);
        int steps = t.x.count(0);
        for (int k : new int[] {-1, steps, LEAST, MOST}) {
            Trial.due("step", t.step(k, 0), Trial.NO_SUCH);
            Trial.due("spell", t.spell(k), Trial.NO_SUCH);
            Trial.due("outcome", t.outcome(k), Trial.NO_SUCH);
            Trial.due("marked", t.marked(k == steps ? 50 : k), Trial.NO_SUCH);
            Trial.due("octet", t.octet(k == steps ? t.x.count(2) : k), Trial.NO_SUCH);
            Trial.due("value", t.value(k == steps ? 26 : k, -1, -1, -1), Trial.NO_SUCH);
        }
        Trial.due("step of another what", t.step(0, 4), Trial.NO_SUCH);
        if (steps == 0) {
            Trial.due("run", t.runAgain(), Trial.ILLEGAL_STATE);
        }
        Trial.dueText("all stays", t.state(), before);
        Trial.due("the tape stays", t.x.count(1), tape);
    }

    private static void throwsChangeNothing() {
        Trial.sentence("A call that throws changes nothing");
        throwing(new Trial());
        throwing(new Trial().tape("a=5;"));
        for (String text : TEXTS) {
            Trial t = new Trial();
            t.compile(text);
            throwing(t);
            t.spell(0);
            throwing(t);
            t.runAgain();
            throwing(t);
            t.compile("a=b[$");
            throwing(t);
            Trial.due("the tape's bytes stay", t.x.compile(), -5);
            Trial.due("and its FAULT", t.x.fault(), 1);
        }
    }

    private static void askingChangesNothing() {
        Trial.sentence("What only asks (fault, step, octet, outcome, look, value, same, mark, marked, name, below, stores, "
            + "copies, count) changes nothing");
        for (String text : TEXTS) {
            Trial t = Trial.ran(text);
            t.spell(0);
            t.tape("a=b[$");
            String before = t.state();
            for (int n = -2; n < 30; n++) {
                t.x.name(n, 0);
                t.x.below(n, 8);
                t.x.stores(n + 20, n);
                t.x.copies(n + 20, n, 28);
                t.x.same(n, 0, n, 1);
                t.x.look(n, 0, 0, 0, 0);
            }
            Trial.dueText("all stays", t.state(), before);
            Trial.due("the tape's bytes stay", t.x.compile(), -5);
        }
    }

    /** PROGRAMS one behind the other on one object do as each does on a new one. */
    private static void oneObjectForMany() {
        Trial.sentence("Promises 4 and 9: nothing of a PROGRAM and of a run is left in the next one");
        Trial one = new Trial();
        for (int n = 0; n < 4 * TEXTS.length * TEXTS.length; n++) {
            // Each behind each, with one between them, since a compiled PROGRAM may be held where the last but one was.
            String text = TEXTS[(n % 4 == 0 ? n / 4 : n % 4 == 2 ? n / 4 / TEXTS.length : n) % TEXTS.length];
            Trial fresh = new Trial();
            Trial.due("run() of " + text, one.run(text), fresh.run(text));
            Trial.dueText("state behind " + text, one.state().replaceAll(" out.*", ""),
                fresh.state().replaceAll(" out.*", ""));
        }
    }
}
