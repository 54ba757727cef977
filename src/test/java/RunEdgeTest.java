/** Section 3 of the document, RUNS: a test for each sentence of it that names a boundary. */
public final class RunEdgeTest {
    private static final String[] REFUSALS = "none missing index size store cast unlike large".split(" ");
    private static final String[] NAMES =
        ("truth byte short char int long float double beast cat lion dog bird duck bat flier swimmer").split(" ");
    private static final String[] ONES = "true 1b 1s 1c 1 1l 1f 1d".split(" ");

    public static void main(String[] args) {
        allNoneAtFirst();
        fromTheFirstOn();
        theFirstRefusal();
        nothingDone();
        taken();
        indexVars();
        newCreatures();
        reach();
        plainReadAndWrite();
        plainWriteOfOthers();
        toldReads();
        toldWrites();
        getAndPut();
        sizes();
        largeCells();
        largeArrays();
        whatNewMakes();
        clones();
        casts();
        isOf();
        sameness();
        lengths();
        classes();
        hashes();
        equals();
        looks();
        copyRefusals();
        copyIndexes();
        copyStore();
        copyWithin();
        fills();
        swaps();
        turns();
        marks();
        Trial.finish("RunEdgeTest");
    }

    private static void allNoneAtFirst() {
        Trial.sentence("All VARS are none at first");
        for (char v = 'a'; v <= 'z'; v++) {
            char other = v == 'x' ? 'y' : 'x';
            Trial t = new Trial();
            t.compile(other + "=class " + v + ";" + v + "=5;");
            for (int n = 0; n < 3; n++) {
                t.runAgain();
                Trial.due("the CLASS of " + v + " in run " + n, t.number(other), -1);
            }
        }
    }

    private static void fromTheFirstOn() {
        Trial.sentence("STEPS are done from the first on");
        Trial.is("a=1;b=a;a=2;x=b;", 'x', 1);
        Trial.is("a=1;b=a;a=2;b=a;x=b;", 'x', 2);
        Trial t = Trial.ran("a=1;b=2;c=d[0];e=3;");
        Trial.due("done ahead of the end", t.number('b'), 2);
        Trial.due("not done behind it", t.cls('e'), -1);
    }

    private static void theFirstRefusal() {
        Trial.sentence("What is refused is so with the first of the REFUSALS in the order told");
        // Two causes at once each.
        Trial.last("i=true;x=a[i];", 6);
        Trial.last("a=5;x=a[i];", 1);
        Trial.last("x=a[0][9];", 1);
        Trial.last("a=new int[1][];x=a[1][0];", 2);
        Trial.last("a=new int[1];a[1]=cat;", 2);
        Trial.last("a[0]=cat;", 1);
        Trial.last("a=new cat[1];a[1]=dog;", 2);
        Trial.last("a=new cat[1];a[1]=5;", 2);
        Trial.last("a=new cat[1];x=read int a[1];", 6);
        Trial.last("a=new int[1];x=read byte a[1];", 2);
        Trial.last("write int a[0]=5b;", 6);
        Trial.last("write int a[i]=5b;", 1);
        Trial.last("a=new byte[1];write int a[1]=5;", 2);
        Trial.last("a=new int[1];put a[1]=none;", 6);
        Trial.last("a=new int[1];put a[1]=5l;", 2);
        Trial.last("a=new cat[1];put a[1]=5;", 2);
        Trial.last("a=new int[501][-1];", 3);
        Trial.last("a=5;copy a[0] to b[-1] for 1;", 1);
        Trial.last("a=new int[1];b=new cat[1];copy a[-1] to b[0] for 1;", 6);
        Trial.last("a=new beast[1];a[0]=dog;b=new cat[1];copy a[0] to b[0] for 2;", 2);
        Trial.last("a=5;swap a[-1][i];", 1);
        Trial.last("a=5;swap a[-1][0];", 6);
    }

    /** A STEP refused behind a beginning leaves what the beginning made. */
    private static void leaves(String beginning, String step, int refusal) {
        Trial before = Trial.ran(beginning);
        Trial after = Trial.last(beginning + "take " + REFUSALS[refusal] + " " + step + "z=1;", 0);
        int steps = after.x.count(0);
        Trial.due("REFUSAL of " + step, after.outcome(steps - 2), refusal);
        for (int what = 3; what <= 5; what++) {
            Trial.due("count(" + what + ") behind " + step, after.x.count(what), before.x.count(what));
        }
        Trial ended = Trial.ran(beginning + step);
        Trial.dueText("all behind " + beginning + step, ended.things(), before.things());
    }

    private static void nothingDone() {
        Trial.sentence("then nothing of the STEP was done, but where told");
        String b = "a=new beast[3];c=cat;a[0]=c;a[1]=dog;b=new cat[3];b[0]=lion;d=new int[3];d[1]=7;e=new int[2][2];x=9;"
            + "y=new long[2];mark 1;";
        leaves(b, "x=a[3];", 2);
        leaves(b, "x=w[0];", 1);
        leaves(b, "x=x[0];", 6);
        leaves(b, "a[3]=cat;", 2);
        leaves(b, "b[0]=dog;", 4);
        leaves(b, "b[0]=5;", 6);
        leaves(b, "d[1]=5l;", 6);
        leaves(b, "d[1]=none;", 6);
        leaves(b, "x=read byte d[1];", 6);
        leaves(b, "x=read int d[3];", 2);
        leaves(b, "write long d[1]=5l;", 6);
        leaves(b, "write int d[3]=5;", 2);
        leaves(b, "x=get a[-1];", 2);
        leaves(b, "put d[1]=cat;", 6);
        leaves(b, "put b[0]=dog;", 6);
        leaves(b, "x=new int[-1];", 3);
        leaves(b, "x=new int[2][2][-1];", 3);
        leaves(b, "x=new int[501];", 7);
        leaves(b, "x=new int[2][300];", 7);
        leaves(b, "x=clone w;", 1);
        leaves(b, "x=clone c;", 6);
        leaves(b, "x=cast a cat[];", 5);
        leaves(b, "x=cast x long;", 6);
        leaves(b, "x=size w;", 1);
        leaves(b, "x=size x;", 6);
        leaves(b, "copy d[0] to y[0] for 1;", 6);
        leaves(b, "copy d[0] to d[2] for 2;", 2);
        leaves(b, "copy a[1] to b[0] for 1;", 4);
        leaves(b, "fill b with dog;", 4);
        leaves(b, "fill d with 5l;", 6);
        leaves(b, "swap d[1][3];", 2);
        leaves(b, "swap a[-1][0];", 2);
        leaves(b, "turn x;", 6);
        String wide = "v=new int[40][];w=new int[500];fill v with w;x=9;";
        leaves(wide, "x=hash v;", 7);
        leaves(wide, "x=equal v v;", 7);
        leaves("a=new int[500];".repeat(8) + "x=9;", "x=clone a;", 7);
        leaves("a=new int[500];".repeat(8) + "x=9;", "x=new cat[1];", 7);
    }

    private static void taken() {
        Trial.sentence("If it has take with that REFUSAL, it goes on with the next STEP, else the run ends");
        String[] refused = {null, "x=a[0];", "b=new int[1];x=b[1];", "x=new int[-1];", "b=new cat[1];b[0]=dog;",
            "b=cat;x=cast b dog;", "b=5;x=b[0];", "x=new int[501];"};
        for (int r = 1; r <= 7; r++) {
            int cut = refused[r].indexOf(';') + 1;
            String lead = cut == refused[r].length() ? "" : refused[r].substring(0, cut);
            String step = refused[r].substring(lead.length());
            int k = lead.isEmpty() ? 0 : 1;
            for (int take = 0; take <= 7; take++) {
                Trial t = new Trial();
                String text = lead + (take == 0 ? "" : "take " + REFUSALS[take] + " ") + step + "y=6;";
                Trial.due("run() of " + text, t.run(text), take == r ? 0 : k + 1);
                Trial.due("its REFUSAL", t.outcome(k), r);
                Trial.due("the next STEP", t.outcome(k + 1), take == r ? 0 : -1);
                Trial.due("what it does", t.number('y'), take == r ? 6 : Trial.NO_SUCH);
                Trial.due("REFUSALS taken", t.x.count(9), take == r ? 1 : 0);
            }
        }
        Trial t = new Trial();
        Trial.due("refused last and taken", t.run("a=5;take missing x=b[0];"), 0);
        Trial.due("refused last", t.run("a=5;x=b[0];"), 2);
        Trial.due("refused first", t.run("x=b[0];a=5;"), 1);
        Trial.due("a take where all is done", t.run("take missing a=5;"), 0);
        Trial.due("its count", t.x.count(9), 0);
        Trial.due("eight of them taken", t.run("take missing x=b[0];".repeat(8)), 0);
        Trial.due("their count", t.x.count(9), 8);
        Trial.due("refused as STEP 99", t.run("a=5;".repeat(99) + "x=b[0];"), 100);
    }

    private static void indexVars() {
        Trial.sentence("At first, from the left: an INDEX that is a VAR must be a NUMBER of KIND 1 to 4 (none: missing; else "
            + "unlike)");
        String arrays = "a=new int[3];b=new int[3][3];c=new int[3];";
        String[] steps = {"x=a[i];", "a[i]=5;", "x=read int a[i];", "write int a[i]=5;", "x=get a[i];", "put a[i]=5;",
            "x=b[i][0];", "x=b[0][i];", "b[i][i]=5;", "x=new int[i];", "x=new int[1][i];", "x=new int[1][1][i];",
            "copy a[i] to c[0] for 1;", "copy a[0] to c[i] for 1;", "copy a[0] to c[0] for i;", "swap a[i][0];",
            "swap a[0][i];"};
        String[] values = {"", "i=true;", "i=1b;", "i=1s;", "i=1c;", "i=1;", "i=1l;", "i=1f;", "i=1d;", "i=cat;",
            "i=new int[1];", "i=none;"};
        for (String step : steps) {
            for (int n = 0; n < values.length; n++) {
                int due = n == 0 || n == 11 ? 1 : n >= 2 && n <= 5 ? 0 : 6;
                Trial.last(arrays + values[n] + step, due);
            }
        }
        // From the left, and ahead of all else.
        Trial.last("i=true;x=a[i][j];", 6);
        Trial.last("i=true;x=a[j][i];", 1);
        Trial.last("i=1l;copy a[j] to b[i] for i;", 1);
        Trial.last("i=1l;copy a[i] to b[j] for j;", 6);
        Trial.last("i=1l;copy a[0] to b[i] for j;", 6);
        Trial.last("i=1l;copy a[0] to b[j] for i;", 1);
        Trial.last("i=1l;x=new int[-1][i];", 6);
        Trial.last("x=new int[-1][i];", 1);
        Trial.last("i=cat;x=new int[501][i];", 6);
        Trial.last("a=5;a[i]=5;", 1);
        Trial.last("i=true;write int a[i]=cat;", 6);
        Trial.last("write int a[i]=cat;", 1);
        // An INDEX may be the very VAR that is told, and its number any.
        Trial.is("i=2c;i=new int[i];x=size i;", 'x', 2);
        Trial.last("i=-128b;a=new int[1];x=a[i];", 2);
        Trial.last("i=-128b;x=new int[i];", 3);
        Trial.last("i=65535c;x=new int[i];", 7);
        Trial.last("i=-2147483648;a=new int[1];x=a[i];", 2);
    }

    private static void newCreatures() {
        Trial.sentence("an ATOM that is the name of a KIND is a new CREATURE");
        for (int kind = 8; kind <= 14; kind++) {
            Trial t = Trial.ran("a=" + NAMES[kind] + ";b=" + NAMES[kind] + ";c=a;d=new beast[2];fill d with "
                + NAMES[kind] + ";mark " + NAMES[kind] + ";");
            Trial.due("its CLASS", t.cls('a'), kind);
            Trial.due("another", t.x.same(0, -1, 1, -1), false);
            Trial.due("the very same", t.x.same(0, -1, 2, -1), true);
            Trial.due("one for all CELLS", t.x.same(3, 0, 3, 1), true);
            Trial.due("not that of a", t.x.same(3, 0, 0, -1), false);
            Trial.due("marked", t.x.mark(0, 0), kind);
        }
        Trial many = Trial.ran("a=new beast[2];" + "a[0]=cat;a[1]=cat;".repeat(49) + "b=a[0];");
        Trial.due("the last of 98", many.x.same(0, 0, 1, -1), true);
        Trial.due("and the other", many.x.same(0, 1, 1, -1), false);
        // The first thing that a run makes, found again in CELLS.
        Trial first = Trial.ran("a=lion;b=new cat[2];b[0]=a;b[1]=a;c=b[0];d=new cat[2];copy b[0] to d[0] for 2;");
        Trial.due("CLASS of b[0]", first.cls('b', 0), 10);
        Trial.due("CLASS of c", first.cls('c'), 10);
        Trial.due("c is a", first.x.same(2, -1, 0, -1), true);
        Trial.due("d[1] is a", first.x.same(3, 1, 0, -1), true);
    }

    private static void reach() {
        Trial.sentence("TO REACH a PLACE: AT by AT but the last one: what is at hand (at first the VAR) must be an ARRAY "
            + "(none: missing; else unlike) with such a CELL (index); that is at hand then");
        String[][] around = {{"x=", ";"}, {"", "=5;"}, {"x=read int ", ";"}, {"write int ", "=5;"}, {"x=get ", ";"},
            {"put ", "=5;"}};
        String[][] due = {
            {"", "a[0][0]", "1"}, {"a=5;", "a[0][0]", "6"}, {"a=cat;", "a[0][0]", "6"}, {"a=true;", "a[0][0]", "6"},
            {"", "a[0][0][0]", "1"}, {"a=5;", "a[0][0][0]", "6"}, {"a=cat;", "a[9][9][9]", "6"},
            {"a=new int[2][2];", "a[2][0]", "2"}, {"a=new int[2][2];", "a[-1][0]", "2"},
            {"a=new int[2][2];", "a[2][9]", "2"}, {"a=new int[0][2];", "a[0][0]", "2"},
            {"a=new int[2][];", "a[1][0]", "1"}, {"a=new int[2][];", "a[1][9]", "1"},
            {"a=new int[2];", "a[1][0]", "6"}, {"a=new int[2];", "a[1][0][0]", "6"}, {"a=new int[2];", "a[2][0]", "2"},
            {"a=new int[2];", "a[2][0][0]", "2"}, {"a=new cat[2];", "a[1][0]", "1"}, {"a=new cat[2];", "a[1][0][0]", "1"},
            {"a=new cat[2];fill a with cat;", "a[1][0]", "6"}, {"a=new cat[2];fill a with cat;", "a[1][0][0]", "6"},
            {"a=new int[2][2][2];", "a[1][2][0]", "2"}, {"a=new int[2][2][2];", "a[1][-1][0]", "2"},
            {"a=new int[2][2][2];", "a[2][0][0]", "2"}, {"a=new int[2][2][];", "a[1][1][0]", "1"},
            {"a=new int[2][][];", "a[1][1][0]", "1"}, {"a=new int[2][][];", "a[2][1][0]", "2"},
            {"a=new int[2][2][2];", "a[1][1][2]", "2"}, {"a=new int[2][2][2];", "a[1][1][-1]", "2"},
            {"a=new int[2][2][2];", "a[1][1][1]", "0"}, {"a=new int[2][2];", "a[1][1]", "0"},
            {"a=new int[2][2];", "a[1][1][0]", "6"}, {"a=new int[2];", "a[1]", "0"}, {"a=new int[2];", "a[2]", "2"},
            {"", "a[0]", "1"}, {"a=5;", "a[0]", "6"}, {"a=cat;", "a[0]", "6"}};
        for (String[] d : due) {
            for (String[] p : around) {
                Trial.last(d[0] + p[0] + d[1] + p[1], Integer.parseInt(d[2]));
            }
        }
        Trial t = Trial.last("a=new int[2][2][2];a[1][0][1]=7;b=a[1];c=b[0];x=c[1];", 0);
        Trial.due("AT by AT", t.number('x'), 7);
    }

    private static void plainReadAndWrite() {
        Trial.sentence("2, 3: REACH; what is at hand an ARRAY likewise; index. 3 then, of NUMBERS: what is no NUMBER that "
            + "WIDENS to their KIND is unlike, else it is written as that");
        for (int from = 0; from < 8; from++) {
            for (int to = 0; to < 8; to++) {
                boolean widens = from == to || from != 0 && to > 3 && from < to || from == 1 && to == 2;
                Trial t = Trial.last("a=new " + NAMES[to] + "[1];a[0]=" + ONES[from] + ";", widens ? 0 : 6);
                Trial.due("KIND of the CELL", t.cls('a', 0), to);
                Trial.due("its NUMBER", t.number('a', 0), widens ? 1 : 0);
                Trial.last("a=new " + NAMES[to] + "[1];a[1]=" + ONES[from] + ";", 2);
            }
            for (String other : new String[] {"none", "cat", "b", "a"}) {
                Trial.last("a=new " + NAMES[from] + "[1];a[0]=" + other + ";", 6);
                Trial.last("a=new " + NAMES[from] + "[1];a[-1]=" + other + ";", 2);
            }
        }
        Trial t = Trial.last("a=new int[2];a[0]=-2147483648;a[1]=2147483647;x=a[0];y=a[1];", 0);
        Trial.due("least", t.number('x'), -2147483648);
        Trial.due("greatest", t.number('y'), 2147483647);
        // What is read does not change with the CELL later.
        Trial.is("a=new int[1];a[0]=5;x=a[0];a[0]=6;", 'x', 5);
    }

    private static void plainWriteOfOthers() {
        Trial.sentence("of others: a NUMBER is unlike, a CLASS not BELOW that of the ELEMENTS store (none is written)");
        for (int n = 0; n < 8; n++) {
            Trial.last("a=new cat[1];a[0]=" + ONES[n] + ";", 6);
            Trial.last("a=new " + NAMES[n] + "[1][];a[0]=" + ONES[n] + ";", 6);
        }
        Trial t = Trial.last("a=new cat[1];a[0]=lion;a[0]=none;b=new int[1][1];b[0]=none;", 0);
        Trial.due("none is written", t.cls('a', 0), -1);
        Trial.due("none is written", t.cls('b', 0), -1);
        Trial.last("a=new cat[1];a[0]=w;", 0);
        Trial.last("a=new cat[1];a[0]=beast;", 4);
        Trial.last("a=new cat[1];a[0]=a;", 4);
        Trial.last("a=new cat[1];b=new cat[1];a[0]=b;", 4);
        Trial.last("a=new cat[1][];a[0]=cat;", 4);
        Trial.last("a=new cat[1][];a[0]=a;", 4);
        Trial.last("a=new cat[1][];b=new lion[0];a[0]=b;", 0);
        Trial.last("a=new lion[1][];b=new cat[0];a[0]=b;", 4);
        Trial.last("a=new int[1][];b=new int[0];a[0]=b;", 0);
        Trial.last("a=new int[1][];b=new byte[0];a[0]=b;", 4);
        Trial.last("a=new flier[1][][];b=new duck[1][1];a[0]=b;", 0);
        Trial.last("a=new flier[1][][];b=new dog[1][1];a[0]=b;", 4);
        Trial.last("a=new flier[1][][];b=new duck[1];a[0]=b;", 4);
        Trial.last("a=new flier[1];a[0]=duck;a[0]=bat;a[0]=bird;", 0);
        Trial.last("a=new flier[1];a[0]=beast;", 4);
    }

    private static void toldReads() {
        Trial.sentence("4: REACH; an ARRAY of NUMBERS (none: missing; else unlike); index; unlike, if its KIND does not WIDEN "
            + "to KIND. What is read is a NUMBER of KIND");
        Trial.last("x=read int a[0];", 1);
        Trial.last("a=new int[1][];x=read int a[0][0];", 1);
        for (String other : new String[] {"5", "cat", "true"}) {
            Trial.last("a=" + other + ";x=read int a[0];", 6);
        }
        Trial.last("a=new cat[1];x=read int a[0];", 6);
        Trial.last("a=new int[1][1];x=read int a[0];", 6);
        Trial.last("a=new int[1][1];x=read int a[1];", 6);
        for (int from = 0; from < 8; from++) {
            for (int to = 0; to < 8; to++) {
                boolean widens = from == to || from != 0 && to > 3 && from < to || from == 1 && to == 2;
                String a = "a=new " + NAMES[from] + "[2];a[1]=" + ONES[from] + ";";
                Trial t = Trial.last(a + "x=read " + NAMES[to] + " a[1];", widens ? 0 : 6);
                Trial.due("KIND read", t.cls('x'), widens ? to : -1);
                Trial.due("NUMBER read", t.number('x'), widens ? 1 : Trial.NO_SUCH);
                Trial.due("KIND of the CELL stays", t.cls('a', 1), from);
                Trial.last(a + "x=read " + NAMES[to] + " a[2];", 2);
                Trial.last(a + "x=read " + NAMES[to] + " a[-1];", 2);
            }
        }
    }

    private static void toldWrites() {
        Trial.sentence("5: the ATOM must be a NUMBER of that KIND (else unlike, ahead of all of these but the INDEXES); index; "
            + "unlike, if KIND does not WIDEN to its. What is written one of theirs");
        for (int kind = 0; kind < 8; kind++) {
            for (int atom = 0; atom < 8; atom++) {
                // Ahead of the ARRAY that is missing: unlike, unless the ATOM is of that KIND.
                Trial.last("write " + NAMES[kind] + " a[0]=" + ONES[atom] + ";", kind == atom ? 1 : 6);
                Trial.last("b=" + ONES[atom] + ";write " + NAMES[kind] + " a[0]=b;", kind == atom ? 1 : 6);
            }
            for (String other : new String[] {"none", "cat", "a", "b"}) {
                Trial.last("b=new int[1];write " + NAMES[kind] + " a[0]=" + other + ";", 6);
                Trial.last("a=new int[1];write " + NAMES[kind] + " a[9]=" + other + ";", 6);
            }
            for (int to = 0; to < 8; to++) {
                boolean widens = kind == to || kind != 0 && to > 3 && kind < to || kind == 1 && to == 2;
                String a = "a=new " + NAMES[to] + "[1];";
                Trial t = Trial.last(a + "write " + NAMES[kind] + " a[0]=" + ONES[kind] + ";", widens ? 0 : 6);
                Trial.due("KIND of the CELL", t.cls('a', 0), to);
                Trial.due("its NUMBER", t.number('a', 0), widens ? 1 : 0);
                Trial.last(a + "write " + NAMES[kind] + " a[1]=" + ONES[kind] + ";", 2);
                Trial.last(a + "write " + NAMES[kind] + " a[-1]=" + ONES[kind] + ";", 2);
            }
        }
        Trial.last("a=new cat[1];write int a[0]=5;", 6);
        Trial.last("a=new cat[1];write int a[9]=5;", 6);
        Trial.last("a=new int[1][1];write int a[9]=5;", 6);
        Trial.last("a=new int[1][];write int a[0][0]=5;", 1);
        Trial.last("a=cat;write int a[0]=5;", 6);
    }

    private static void getAndPut() {
        Trial.sentence("6, 7: REACH; an ARRAY likewise; 7, of NUMBERS: what is no NUMBER is unlike; index; 7: of NUMBERS one "
            + "that does not WIDEN, of others a NUMBER or a CLASS not BELOW is unlike");
        Trial.last("x=get a[0];", 1);
        Trial.last("a=cat;x=get a[0];", 6);
        Trial.last("a=new int[1];x=get a[1];", 2);
        Trial.last("a=new int[1];x=get a[-1];", 2);
        Trial.last("put a[0]=cat;", 1);
        Trial.last("a=5;put a[0]=5;", 6);
        for (int kind = 0; kind < 8; kind++) {
            String a = "a=new " + NAMES[kind] + "[2];b=new int[1];a[1]=" + ONES[kind] + ";";
            Trial t = Trial.last(a + "x=get a[1];", 0);
            Trial.due("KIND got", t.cls('x'), kind);
            Trial.due("NUMBER got", t.number('x'), 1);
            for (String other : new String[] {"none", "w", "cat", "a", "b"}) {
                Trial.last(a + "put a[0]=" + other + ";", 6);
                Trial.last(a + "put a[2]=" + other + ";", 6);
                Trial.last(a + "put a[-1]=" + other + ";", 6);
            }
            for (int from = 0; from < 8; from++) {
                boolean widens = from == kind || from != 0 && kind > 3 && from < kind || from == 1 && kind == 2;
                Trial u = Trial.last(a + "put a[0]=" + ONES[from] + ";", widens ? 0 : 6);
                Trial.due("NUMBER put", u.number('a', 0), widens ? 1 : 0);
                Trial.due("its KIND", u.cls('a', 0), kind);
                Trial.last(a + "put a[2]=" + ONES[from] + ";", 2);
            }
        }
        Trial.last("a=new cat[1];put a[0]=5;", 6);
        Trial.last("a=new cat[1];put a[1]=5;", 2);
        Trial.last("a=new cat[1];put a[0]=dog;", 6);
        Trial.last("a=new cat[1];put a[1]=dog;", 2);
        Trial.last("a=new cat[1];put a[0]=a;", 6);
        Trial.last("a=new cat[1][];put a[0]=cat;", 6);
        Trial.last("a=new int[1][];b=new long[1];put a[0]=b;", 6);
        Trial.last("a=new int[1][];put a[0]=5;", 6);
        Trial t = Trial.last("a=new beast[3];put a[0]=cat;put a[1]=dog;put a[1]=none;x=get a[0];y=get a[1];", 0);
        Trial.due("got", t.x.same(23, -1, 0, 0), true);
        Trial.due("none got", t.cls('y'), -1);
    }

    private static void sizes() {
        Trial.sentence("8: a length below 0: size");
        for (String lengths : "[-1] [-2147483648] [-1][] [0][-1] [1][-1] [-1][1] [1][1][-1] [1][-1][1] [0][0][-1] [-1][-1][-1] "
                .trim().split(" ")) {
            Trial.last("a=new int" + lengths + ";", 3);
            Trial.last("a=new cat" + lengths + ";", 3);
        }
        Trial.last("a=new int[501][-1];", 3);
        Trial.last("a=new int[-1][501];", 3);
        Trial.last("a=new int[2147483647][2147483647][-1];", 3);
        Trial.last("a=new int[500];".repeat(8) + "b=new int[-1];", 3);
        Trial.last("a=new int[0];", 0);
        Trial.last("i=-1s;a=new int[i];", 3);
        Trial.last("i=0;a=new int[i];", 0);
        // An INDEX of a STEP ahead is none of this one's lengths.
        Trial.last("b=new int[1];take index swap b[0][-1];a=new int[2];", 0);
        Trial.last("b=new int[1][1][1];take index x=b[0][0][-5];a=new int[2][2];", 0);
        Trial.last("b=new int[1];take index copy b[0] to b[0] for -1;a=new int[1];", 0);
    }

    private static void largeCells() {
        Trial.sentence("large: more than 500 CELLS in all that it makes, or more than 4000 CELLS .. with all that the run made");
        String[] most = {"[500]", "[500][]", "[500][][]", "[2][249]", "[20][24]", "[4][4][30]", "[1][499]", "[1][1][498]",
            "[0][501]", "[0][2147483647][2147483647]", "[1][0][2147483647]", "[125][3][]", "[499][][]"};
        String[] more = {"[501]", "[501][]", "[501][][]", "[3][166]", "[3][2][82]", "[20][25]", "[1][500]", "[1][1][499]",
            "[500][1]", "[2147483647]", "[2147483647][0]", "[2147483647][2147483647][2147483647]", "[65536][65536]",
            "[1][2147483647]", "[46341][46341]", "[126][3][]", "[500][2147483647]", "[1][1][2147483647]"};
        for (String lengths : most) {
            Trial.last("a=new int" + lengths + ";", 0);
        }
        for (String lengths : more) {
            Trial.last("a=new int" + lengths + ";", 7);
        }
        String eight = "a=new int[500];".repeat(8);
        Trial t = Trial.last(eight + "b=new int[0];", 0);
        Trial.due("CELLS", t.x.count(5), 4000);
        Trial.last(eight + "b=new int[1];", 7);
        Trial.last(eight + "b=new int[1][0];", 7);
        Trial.last(eight + "b=new int[0][9];", 0);
        Trial.last("a=new int[500];".repeat(7) + "a=new int[499];b=new int[1];b=new int[0];", 0);
        Trial.last("a=new int[500];".repeat(7) + "a=new int[499];b=new int[2];", 7);
        Trial.last("a=new int[500];".repeat(7) + "a=new int[1];b=new int[499];", 0);
        Trial.last("a=new int[500];".repeat(7) + "a=new int[1];b=new int[500];", 7);
        // What was refused counts for nothing; what no VAR has any longer counts on.
        Trial.last("take large a=new int[501];".repeat(8) + eight, 0);
        Trial.last("a=new int[500];a=none;".repeat(8) + "b=new int[1];", 7);
        // All that the run made, and not another one.
        Trial u = new Trial();
        u.compile(eight + "take large b=new int[1];");
        for (int n = 0; n < 4; n++) {
            Trial.due("run " + n, u.runAgain(), 0);
            Trial.due("its CELLS", u.x.count(5), 4000);
        }
    }

    private static void largeArrays() {
        Trial.sentence("or more than .. 200 ARRAYS with all that the run made");
        Trial.last("a=new int[199][0];", 0);
        Trial.last("a=new int[200][0];", 7);
        Trial.last("a=new int[200][];", 0);
        Trial.last("a=new int[1][198][0];", 0);
        Trial.last("a=new int[1][199][0];", 7);
        Trial.last("a=new int[14][13][0];", 0);
        Trial.last("a=new int[14][14][0];", 7);
        Trial.last("a=new int[198][0];b=new int[0];", 0);
        Trial.last("a=new int[199][0];b=new int[0];", 7);
        Trial.last("a=new int[197][0];b=new int[1][0];", 0);
        Trial.last("a=new int[198][0];b=new int[1][0];", 7);
        Trial.last("a=new int[198][0];b=clone a;", 0);
        Trial.last("a=new int[199][0];b=clone a;", 7);
        Trial.last("a=new int[0];".repeat(100), 0);
        // With all CREATURES that there can be beside them.
        Trial t = Trial.last("a=new beast[1];take large c=new int[200][0];b=new beast[198][0];" + "x=cat;".repeat(96)
            + "a[0]=x;", 0);
        Trial.due("ARRAYS", t.x.count(4), 200);
        Trial.due("the last ARRAY", t.cls('b', 197), 28);
        Trial.due("the last CREATURE", t.x.same(0, 0, 23, -1), true);
        Trial.due("its KIND", t.cls('a', 0), 9);
        Trial u = new Trial();
        u.compile("a=new int[199][0];x=cat;y=a[198];z=class y;take large b=new int[0];");
        for (int n = 0; n < 100; n++) {
            Trial.due("run " + n, u.runAgain(), 0);
            Trial.due("its ARRAYS", u.x.count(4), 200);
            Trial.due("the last of them", u.number('z'), 24);
        }
    }

    private static void whatNewMakes() {
        Trial.sentence("An ARRAY of the first length, of ARRAYS of the second one, and so on; behind the last length all is "
            + "none (or NUMBERS 0)");
        for (int kind = 0; kind < 17; kind++) {
            Trial t = new Trial();
            // Twice on one object, with all that was written the first time.
            for (int n = 0; n < 2; n++) {
                String atom = kind < 8 ? ONES[kind] : NAMES[kind < 15 ? kind : 13];
                t.run("a=new " + NAMES[kind] + "[2][3];b=new " + NAMES[kind] + "[2][];c=new " + NAMES[kind]
                    + "[2];d=new " + NAMES[kind] + "[1][2][3];e=new " + NAMES[kind] + "[1][2][];");
                Trial.due("CLASS of a", t.cls('a'), 40 + kind);
                Trial.due("CLASS of a[1]", t.cls('a', 1), 20 + kind);
                Trial.due("lengths of a", t.length('a') * 10 + t.length('a', 1), 23);
                Trial.due("lengths of d", t.length('d') * 100 + t.length('d', 0) * 10 + t.length('d', 0, 1), 123);
                Trial.due("CLASS of e[0][1]", t.cls('e', 0, 1), -1);
                Trial.due("CLASS of b[1]", t.cls('b', 1), -1);
                int none = kind < 8 ? kind : -1;
                long zero = kind < 8 ? 0 : Trial.NO_SUCH;
                for (int i = 0; i < 2; i++) {
                    Trial.due("CLASS of c[" + i + "]", t.cls('c', i), none);
                    Trial.due("c[" + i + "]", t.number('c', i), zero);
                    for (int j = 0; j < 3; j++) {
                        Trial.due("CLASS of a[i][j]", t.cls('a', i, j), none);
                        Trial.due("a[i][j]", t.number('a', i, j), zero);
                        Trial.due("d[0][i][j]", t.number('d', 0, i, j), zero);
                    }
                }
                Trial.due("others", t.x.same(0, 0, 0, 1), false);
                t.run("a=new " + NAMES[kind] + "[400];fill a with " + atom + ";");
                Trial.due("filled", t.cls('a', 399), kind < 15 ? kind : 13);
            }
        }
    }

    private static void clones() {
        Trial.sentence("9: missing, unlike; large; a new ARRAY of the same CLASS and CELLS");
        Trial.last("a=clone b;", 1);
        for (String other : new String[] {"5", "true", "cat"}) {
            Trial.last("b=" + other + ";a=clone b;", 6);
        }
        String seven = "a=new int[500];".repeat(7);
        Trial.last(seven + "b=clone a;", 0);
        Trial.last(seven + "b=clone a;c=clone a;", 7);
        Trial.last(seven + "d=new int[499];c=new int[1];d=clone c;", 7);
        Trial.last(seven + "d=new int[498];c=new int[1];d=clone c;", 0);
        Trial.last(seven + "b=clone a;c=new int[0];d=clone c;", 0);
        for (int kind = 0; kind < 17; kind++) {
            for (String dims : new String[] {"", "[]", "[][]"}) {
                for (int length : new int[] {0, 1, 3}) {
                    Trial t = Trial.last("a=new " + NAMES[kind] + "[" + length + "]" + dims + ";b=clone a;", 0);
                    Trial.due("CLASS of the clone", t.cls('b'), t.cls('a'));
                    Trial.due("its length", t.length('b'), length);
                    Trial.due("another ARRAY", t.x.same(0, -1, 1, -1), false);
                }
            }
        }
        Trial t = Trial.last("a=new beast[3];a[0]=cat;a[2]=dog;b=clone a;a[0]=none;b[2]=none;", 0);
        Trial.due("a[0] and b[0]", t.cls('a', 0) * 100 + t.cls('b', 0), -100 + 9);
        Trial.due("a[2] and b[2]", t.cls('a', 2) * 100 + t.cls('b', 2), 1100 - 1);
        Trial.is("a=new int[2];a[1]=7;a=clone a;x=a[1];", 'x', 7);
    }

    private static void casts() {
        Trial.sentence("10: none stays; a NUMBER: unlike, unless its CLASS is that; else cast, if its CLASS is not BELOW");
        for (String cls : "int cat int[] cat[] flier[] swimmer[][][]".split(" ")) {
            Trial t = Trial.last("b=7;b=cast a " + cls + ";", 0);
            Trial.due("none as " + cls, t.cls('b'), -1);
        }
        for (int kind = 0; kind < 8; kind++) {
            for (int to = 0; to < 15; to++) {
                Trial t = Trial.last("a=" + ONES[kind] + ";b=cast a " + NAMES[to] + ";", kind == to ? 0 : 6);
                Trial.due("the NUMBER", t.number('b'), kind == to ? 1 : Trial.NO_SUCH);
            }
            Trial.last("a=" + ONES[kind] + ";b=cast a " + NAMES[kind] + "[];", 6);
            Trial.last("a=new " + NAMES[kind] + "[1];b=cast a " + NAMES[kind] + ";", 5);
            Trial.last("a=new " + NAMES[kind] + "[1];b=cast a " + NAMES[kind] + "[];", 0);
            Trial.last("a=new " + NAMES[kind] + "[1];b=cast a " + NAMES[kind] + "[][];", 5);
            Trial.last("a=cat;b=cast a " + NAMES[kind] + ";", 5);
            Trial.last("a=new cat[1];b=cast a " + NAMES[kind] + "[];", 5);
        }
        Trial.last("a=cat;b=cast a cat;b=cast a beast;", 0);
        Trial.last("a=cat;b=cast a lion;", 5);
        Trial.last("a=cat;b=cast a cat[];", 5);
        Trial.last("a=new cat[0];b=cast a cat;", 5);
        Trial.last("a=new cat[0];b=cast a beast[];", 0);
        Trial.last("a=new cat[0];b=cast a beast[][];", 5);
        Trial.last("a=new byte[0];b=cast a int[];", 5);
        Trial t = Trial.last("a=new duck[1];b=cast a swimmer[];", 0);
        Trial.due("the very same", t.x.same(0, -1, 1, -1), true);
        Trial.due("of its own CLASS", t.cls('b'), 33);
    }

    private static void isOf() {
        Trial.sentence("11: a truth: whether it is no none and its CLASS is BELOW that");
        for (String cls : "int cat truth int[] flier[]".split(" ")) {
            Trial.is("x=is a " + cls + ";", 'x', 0);
        }
        for (int kind = 0; kind < 8; kind++) {
            for (int to = 0; to < 15; to++) {
                Trial.is("a=" + ONES[kind] + ";x=is a " + NAMES[to] + ";", 'x', kind == to ? 1 : 0);
            }
        }
        Trial.is("a=lion;x=is a cat;", 'x', 1);
        Trial.is("a=cat;x=is a lion;", 'x', 0);
        Trial.is("a=cat;x=is a int;", 'x', 0);
        Trial.is("a=cat;x=is a cat[];", 'x', 0);
        Trial.is("a=new cat[1];x=is a cat;", 'x', 0);
        Trial.is("a=new cat[1];x=is a beast[];", 'x', 1);
        Trial.is("a=new int[1];x=is a long[];", 'x', 0);
        Trial.is("a=5;a=is a int;x=class a;", 'x', 0);
    }

    private static void sameness() {
        Trial.sentence("12: whether both are none, or the very same CREATURE or ARRAY, or NUMBERS of one KIND and the same");
        // none, wherever it comes from.
        String none = "a=new cat[1];b=a[0];c=none;d=5;d=none;e=get a[0];f=cast c cat;g=7;a[0]=lion;a[0]=none;g=a[0];";
        for (char v : "bcdefgw".toCharArray()) {
            for (char w : "bcdefgw".toCharArray()) {
                Trial.is(none + "x=same " + v + " " + w + ";", 'x', 1);
                Trial.is(none + "x=equal " + v + " " + w + ";", 'x', 1);
            }
        }
        for (String other : new String[] {"0", "false", "cat", "0d"}) {
            Trial.is("a=" + other + ";x=same a b;", 'x', 0);
            Trial.is("a=" + other + ";x=same b a;", 'x', 0);
            Trial.is("a=" + other + ";x=same a a;", 'x', 1);
        }
        for (int k = 0; k < 8; k++) {
            for (int m = 0; m < 8; m++) {
                Trial.is("a=" + ONES[k] + ";b=" + ONES[m] + ";x=same a b;", 'x', k == m ? 1 : 0);
            }
        }
        Trial.is("a=5;b=6;x=same a b;", 'x', 0);
        Trial.is("a=4294967297l;b=1l;x=same a b;", 'x', 0);
        Trial.is("a=9223372036854775807l;b=9223372036854775806l;x=same a b;", 'x', 0);
        Trial.is("a=9223372036854775807d;b=9223372036854775806d;x=same a b;", 'x', 1);
        Trial.is("a=9223372036854775807d;b=9223372036854774784d;x=same a b;", 'x', 0);
        Trial.is("a=new int[1];b=clone a;x=same a b;", 'x', 0);
        Trial.is("a=new int[1];b=a;x=same a b;", 'x', 1);
        Trial.is("a=cat;b=new cat[1];b[0]=a;c=b[0];x=same a c;", 'x', 1);
        Trial.is("a=cat;b=cat;x=same a b;", 'x', 0);
        // A CREATURE and an ARRAY that came as the first of their runs.
        Trial.is("a=cat;b=new cat[0];x=same a b;", 'x', 0);
    }

    private static void lengths() {
        Trial.sentence("13: missing, unlike: its length, an int");
        Trial.last("x=size a;", 1);
        for (String other : new String[] {"5", "true", "cat"}) {
            Trial.last("a=" + other + ";x=size a;", 6);
        }
        for (int length : new int[] {0, 1, 499, 500}) {
            Trial t = Trial.last("a=new cat[" + length + "];x=size a;", 0);
            Trial.due("its length", t.number('x'), length);
            Trial.due("an int", t.cls('x'), 4);
        }
        Trial.is("a=new int[3][0];x=size a;", 'x', 3);
        Trial.is("a=new int[3][0];b=a[2];x=size b;", 'x', 0);
    }

    private static void classes() {
        Trial.sentence("14: its CLASS, an int; - 1 of none");
        Trial.is("x=class a;", 'x', -1);
        Trial.due("an int", Trial.ran("x=class a;").cls('x'), 4);
        for (int kind = 0; kind < 17; kind++) {
            if (kind < 15) {
                Trial.is("a=" + (kind < 8 ? ONES[kind] : NAMES[kind]) + ";x=class a;", 'x', kind);
            }
            for (int dims = 1; dims <= 3; dims++) {
                Trial.is("a=new " + NAMES[kind] + "[0]" + "[]".repeat(dims - 1) + ";x=class a;", 'x', kind + 20 * dims);
            }
        }
    }

    private static void hashes() {
        Trial.sentence("15: an int: 0 of none; of a NUMBER its whole number's low 32 bits exclusive or its high ones (of "
            + "floats and doubles as value() tells it); of a CREATURE its KIND; of an ARRAY h = its CLASS, then CELL by CELL "
            + "h = 31 h + that of it");
        Trial.is("x=hash a;", 'x', 0);
        long[] numbers = {0, 1, -1, 127, -128, 2147483647, -2147483648, 2147483648L, 4294967295L, 4294967296L,
            4294967297L, -4294967296L, Long.MAX_VALUE, Long.MIN_VALUE, Long.MAX_VALUE - 1};
        for (long n : numbers) {
            Trial.is("a=" + n + "l;x=hash a;", 'x', (int) n ^ (int) (n >> 32));
            Trial.is("a=new long[1];a[0]=" + n + "l;x=hash a;", 'x', 25 * 31 + ((int) n ^ (int) (n >> 32)));
            double d = n;
            long whole = (long) d;
            Trial.is("a=" + n + "d;x=hash a;", 'x', (int) whole ^ (int) (whole >> 32));
            whole = (long) (float) n;
            Trial.is("a=" + n + "f;x=hash a;", 'x', (int) whole ^ (int) (whole >> 32));
        }
        Trial.is("a=-1b;x=hash a;", 'x', 0);
        Trial.is("a=65535c;x=hash a;", 'x', 65535);
        Trial.is("a=true;x=hash a;", 'x', 1);
        for (int kind = 8; kind < 15; kind++) {
            Trial.is("a=" + NAMES[kind] + ";x=hash a;", 'x', kind);
        }
        for (int kind = 0; kind < 17; kind++) {
            Trial.is("a=new " + NAMES[kind] + "[0];x=hash a;", 'x', 20 + kind);
            Trial.is("a=new " + NAMES[kind] + "[1];x=hash a;", 'x', (20 + kind) * 31);
            Trial.is("a=new " + NAMES[kind] + "[0][][];x=hash a;", 'x', 60 + kind);
            Trial.is("a=new " + NAMES[kind] + "[2][0];x=hash a;", 'x', ((40 + kind) * 31 + 20 + kind) * 31 + 20 + kind);
        }
        // With Java's wrap-around.
        int h = 24;
        for (int i = 0; i < 500; i++) {
            h = 31 * h + 2147483647;
        }
        Trial.is("a=new int[500];fill a with 2147483647;x=hash a;", 'x', h);
        Trial.due("an int", Trial.ran("a=5l;x=hash a;").cls('x'), 4);
        int cube = 0;
        for (int i = 0, two = 0; i < 2; i++) {
            two = 44;
            for (int j = 0; j < 2; j++) {
                two = 31 * two + (24 * 31 + i) * 31 + j;
            }
            cube = 31 * (i == 0 ? 64 : cube) + two;
        }
        Trial.is("a=new int[2][2][2];a[1][0][0]=1;a[1][1][0]=1;a[0][1][1]=1;a[1][1][1]=1;x=hash a;", 'x', cube);
    }

    private static void equals() {
        Trial.sentence("16: a truth: none like none alone, NUMBERS as 12, CREATURES if the very same, ARRAYS if of one CLASS "
            + "and length, and all CELLS so, one by one up to the first that is not");
        String[] things = {"a=none;", "a=0;", "a=false;", "a=0l;", "a=0d;", "a=cat;", "a=new cat[0];", "a=new int[0];",
            "a=new cat[0][];", "a=new lion[0];", "a=new cat[1];", "a=new cat[2];", "a=new int[1];", "a=new int[1][];",
            "a=new int[1][0];", "a=new int[1][1];", "a=new beast[1];a[0]=cat;", "a=new int[1];a[0]=1;",
            "a=new cat[2];a[1]=lion;"};
        for (int n = 0; n < things.length; n++) {
            for (int m = 0; m < things.length; m++) {
                // Two CREATURES are never the same, nor two ARRAYS with such.
                boolean alike = n == m && !things[n].contains("=cat;") && !things[n].contains("=lion;");
                Trial.is(things[n] + things[m].replace("a[", "b[").replace("a=", "b=") + "x=equal a b;", 'x', alike ? 1 : 0);
                if (n == m) {
                    Trial.is(things[n] + "b=a;x=equal a b;", 'x', 1);
                }
            }
        }
        Trial.is("c=cat;a=new cat[2];b=new cat[2];a[1]=c;b[1]=c;x=equal a b;", 'x', 1);
        Trial.is("c=cat;a=new cat[2];b=new cat[2];a[1]=c;b[0]=c;x=equal a b;", 'x', 0);
        Trial.is("a=new beast[1][];b=clone a;c=new cat[0];d=new lion[0];a[0]=c;b[0]=d;x=equal a b;", 'x', 0);
        Trial.is("a=new beast[1][];b=clone a;c=new cat[0];d=new cat[0];a[0]=c;b[0]=d;x=equal a b;", 'x', 1);
        for (int i = 0; i < 3; i++) {
            for (int j = 0; j < 3; j++) {
                Trial.is("a=new int[3][3];b=new int[3][3];b[" + i + "][" + j + "]=1;x=equal a b;", 'x', 0);
            }
        }
        Trial.is("a=new int[2][2][2];b=new int[2][2][2];x=equal a b;", 'x', 1);
        Trial.is("a=new int[2][2][2];b=new int[2][2][2];b[1][1][1]=1;x=equal a b;", 'x', 0);
        Trial.due("a truth", Trial.ran("x=equal a b;").cls('x'), 0);
    }

    private static void looks() {
        Trial.sentence("15, 16: large where a 20001st CELL (each as often as it is come to; of two at one place the first's) "
            + "would be looked at");
        // 40 + 40 * 499, 50 + 150 + 150 * 132: 20000. 59 + 118 + 118 * 168, 40 + 39 * 499 + 500: 20001.
        String[] most = {"a=new int[40][];b=new int[499];fill a with b;",
            "a=new int[50][][];b=new int[3][];c=new int[132];fill b with c;fill a with b;"};
        String[] more = {"a=new int[59][][];b=new int[2][];c=new int[168];fill b with c;fill a with b;",
            "a=new int[40][];b=new int[499];c=new int[500];fill a with b;a[39]=c;",
            "a=new int[40][];b=new int[499];c=new int[500];fill a with b;a[0]=c;"};
        for (String made : most) {
            Trial.last(made + "x=hash a;", 0);
            Trial.is(made + "x=equal a a;", 'x', 1);
            Trial.is(made + "d=clone a;x=equal a d;", 'x', 1);
            Trial.last(made + "x=hash a;x=equal a a;x=hash a;", 0);
        }
        for (String made : more) {
            Trial.last(made + "x=hash a;", 7);
            Trial.last(made + "x=equal a a;", 7);
            Trial.last(made + "d=clone a;x=equal a d;", 7);
            Trial.last(made + "take large x=hash a;x=hash b;y=5;z=hash y;", 0);
            Trial.last(made + "take large x=equal a a;x=equal b b;", 0);
            Trial.last(made + "take large x=hash a;x=equal b b;", 0);
            Trial.last(made + "x=hash b;x=hash a;", 7);
        }
        // Up to the first that is not: the 20000th CELL still tells, the 20001st does not.
        String two = more[1] + "d=clone a;e=clone c;d[39]=e;";
        Trial.is(two + "e[498]=1;x=equal a d;", 'x', 0);
        Trial.last(two + "e[499]=1;x=equal a d;", 7);
        Trial.is(two + "e[0]=1;x=equal a d;", 'x', 0);
        Trial.is(two + "e=new int[499];d[39]=e;x=equal a d;", 'x', 0);
        Trial.is(more[1] + "d=clone a;d[0]=none;x=equal a d;", 'x', 0);
        Trial.is(more[1] + "d=new int[41][];x=equal a d;", 'x', 0);
        // Empty ARRAYS and others without CELLS have none to look at.
        Trial.last("a=new int[40][];b=new int[500][];c=new int[0];fill b with c;x=hash b;x=equal b b;", 0);
        Trial.last("a=new int[500][][];b=new int[39][];fill a with b;x=hash a;", 0);
        Trial.last("a=new int[500][][];b=new int[40][];fill a with b;x=hash a;", 7);
        Trial.last("a=new int[500][][];b=new int[500][];c=new int[500];fill b with c;fill a with b;x=hash a;", 7);
        Trial.last("a=new int[500][][];b=new int[500][];c=new int[500];fill b with c;fill a with b;x=equal a a;", 7);
    }

    private static void copyRefusals() {
        Trial.sentence("17: missing (the first, the second), unlike (either is no ARRAY; one is of NUMBERS, the other not, or "
            + "of another KIND)");
        String[] things = {"", "5", "true", "cat", "new int[1]", "new long[1]", "new cat[1]", "new dog[1]", "new int[1][]",
            "new long[1][]", "new cat[1][]"};
        for (int n = 0; n < things.length; n++) {
            for (int m = 0; m < things.length; m++) {
                String made = (n == 0 ? "" : "a=" + things[n] + ";") + (m == 0 ? "" : "b=" + things[m] + ";");
                boolean numbers = n == 4 || n == 5 || m == 4 || m == 5;
                int due = n == 0 || m == 0 ? 1 : n < 4 || m < 4 || numbers && n != m ? 6 : 0;
                Trial.last(made + "copy a[0] to b[0] for 1;", due);
                Trial.last(made + "copy a[0] to b[0] for 0;", due);
                // Ahead of index.
                Trial.last(made + "copy a[-1] to b[9] for -1;", due == 0 ? 2 : due);
            }
        }
        Trial.last("a=new byte[1];b=new int[1];copy a[0] to b[0] for 1;", 6);
        Trial.last("a=new int[1];copy a[0] to a[0] for 1;", 0);
    }

    private static void copyIndexes() {
        Trial.sentence("index (the count, a place below 0, or beyond the first's, the second's end)");
        for (int from = -1; from <= 4; from++) {
            for (int to = -1; to <= 3; to++) {
                for (int count = -1; count <= 4; count++) {
                    boolean fine = from >= 0 && to >= 0 && count >= 0 && from + count <= 3 && to + count <= 2;
                    String step = "copy a[" + from + "] to b[" + to + "] for " + count + ";";
                    Trial.last("a=new int[3];b=new int[2];" + step, fine ? 0 : 2);
                    Trial.last("a=new cat[3];b=new beast[2];" + step, fine ? 0 : 2);
                }
            }
        }
        String ab = "a=new int[3];b=new int[2];";
        for (int most : new int[] {Integer.MAX_VALUE, Integer.MIN_VALUE, Integer.MAX_VALUE - 1, -2}) {
            Trial.last(ab + "copy a[" + most + "] to b[0] for 1;", 2);
            Trial.last(ab + "copy a[0] to b[" + most + "] for 1;", 2);
            Trial.last(ab + "copy a[0] to b[0] for " + most + ";", 2);
            Trial.last(ab + "copy a[1] to b[1] for " + most + ";", 2);
            Trial.last(ab + "copy a[" + most + "] to b[" + most + "] for " + most + ";", 2);
            Trial.last(ab + "copy a[" + most + "] to b[0] for 0;", 2);
        }
        Trial.last("a=new int[0];b=new int[0];copy a[0] to b[0] for 0;", 0);
        Trial.last("a=new int[0];b=new int[0];copy a[0] to b[0] for 1;", 2);
        Trial.last("a=new int[0];b=new int[0];copy a[1] to b[0] for 0;", 2);
    }

    private static void copyStore() {
        Trial.sentence("then CELL by CELL, store at the first that is not BELOW the second's ELEMENTS (those ahead are copied "
            + "then)");
        for (int bad = 0; bad <= 5; bad++) {
            StringBuilder s = new StringBuilder("a=new beast[5];b=new cat[6];f=lion;fill b with f;");
            for (int i = 0; i < 5; i++) {
                s.append(i == bad ? "a[" + i + "]=dog;" : i == 2 ? "a[2]=none;" : "a[" + i + "]=cat;");
            }
            Trial t = Trial.last(s + "copy a[0] to b[1] for 5;", bad < 5 ? 4 : 0);
            Trial.due("b[0] stays", t.x.same(1, 0, 5, -1), true);
            for (int i = 0; i < 5; i++) {
                if (i < bad) {
                    boolean copied = i == 2 ? t.cls('b', 3) == -1 : t.x.same(1, i + 1, 0, i);
                    Trial.due("CELL " + i + " ahead of " + bad, copied, true);
                } else {
                    Trial.due("CELL " + i + " behind " + bad, t.x.same(1, i + 1, 5, -1), true);
                }
            }
        }
        // Two that are not BELOW: the first of them is where it stops. And ARRAYS as ELEMENTS.
        Trial.last("a=new beast[2];fill a with dog;b=new cat[2];copy a[0] to b[0] for 2;", 4);
        Trial.last("a=new beast[1][];b=new cat[1][];c=new lion[0];a[0]=c;copy a[0] to b[0] for 1;", 0);
        Trial.last("a=new beast[1][];b=new cat[1][];c=new dog[0];a[0]=c;copy a[0] to b[0] for 1;", 4);
        Trial.last("a=new int[1][1];b=new long[1][];copy a[0] to b[0] for 1;", 4);
        Trial.last("a=new int[1][];b=new long[1][];copy a[0] to b[0] for 1;", 0);
        Trial.last("a=new cat[1];a[0]=cat;b=new flier[1];copy a[0] to b[0] for 1;", 4);
        // What is not among those that are copied does not matter.
        Trial.last("a=new beast[3];a[0]=dog;a[2]=dog;a[1]=cat;b=new cat[1];copy a[1] to b[0] for 1;", 0);
        // From a part of one into a part of another, each CELL to its place.
        Trial t = Trial.last("a=new beast[5];a[0]=beast;a[1]=cat;a[2]=lion;a[3]=dog;a[4]=bird;b=new beast[5];"
            + "copy a[1] to b[2] for 3;", 0);
        int[] due = {-1, -1, 9, 10, 11};
        for (int i = 0; i < 5; i++) {
            Trial.due("b[" + i + "]", t.cls('b', i), due[i]);
            Trial.due("a[" + i + "] stays", t.cls('a', i), 8 + i);
            Trial.due("the very same", i < 2 || t.x.same(1, i, 0, i - 1), true);
        }
        Trial u = Trial.last("a=new int[5];a[0]=10;a[1]=11;a[2]=12;a[3]=13;a[4]=14;b=new int[5];copy a[1] to b[2] for 3;", 0);
        int[] numbers = {0, 0, 11, 12, 13};
        for (int i = 0; i < 5; i++) {
            Trial.due("NUMBER b[" + i + "]", u.number('b', i), numbers[i]);
            Trial.due("NUMBER a[" + i + "] stays", u.number('a', i), 10 + i);
        }
    }

    private static void copyWithin() {
        Trial.sentence("Within one ARRAY it is as if all were copied aside first");
        String numbers = "a=new int[5];a[0]=10;a[1]=11;a[2]=12;a[3]=13;a[4]=14;b=a;";
        String creatures = "a=new beast[5];a[0]=beast;a[1]=cat;a[2]=lion;a[3]=dog;a[4]=bird;b=a;";
        for (int from = 0; from <= 5; from++) {
            for (int to = 0; to <= 5; to++) {
                for (int count = 0; from + count <= 5 && to + count <= 5; count++) {
                    String step = "copy a[" + from + "] to b[" + to + "] for " + count + ";";
                    Trial t = Trial.last(numbers + step, 0);
                    Trial u = Trial.last(creatures + step, 0);
                    for (int i = 0; i < 5; i++) {
                        int due = i >= to && i < to + count ? i - to + from : i;
                        Trial.due("NUMBER " + i + " behind " + step, t.number('a', i), 10 + due);
                        Trial.due("CREATURE " + i + " behind " + step, u.cls('a', i), 8 + due);
                    }
                }
            }
        }
    }

    private static void fills() {
        Trial.sentence("18: missing, unlike (no ARRAY); then CELL by CELL as 3 writes");
        Trial.last("fill a with 5;", 1);
        Trial.last("fill a with a;", 1);
        for (String other : new String[] {"5", "true", "cat"}) {
            Trial.last("a=" + other + ";fill a with 5;", 6);
        }
        // Without CELLS nothing is written, and nothing refused.
        for (String atom : new String[] {"5", "none", "cat", "true", "a"}) {
            Trial.last("a=new int[0];fill a with " + atom + ";", 0);
            Trial.last("a=new cat[0];fill a with " + atom + ";", 0);
            Trial.last("a=new int[0][5];fill a with " + atom + ";", 0);
        }
        for (int length : new int[] {1, 2, 500}) {
            Trial.last("a=new int[" + length + "];fill a with none;", 6);
            Trial.last("a=new int[" + length + "];fill a with 5l;", 6);
            Trial.last("a=new cat[" + length + "];fill a with 5;", 6);
            Trial.last("a=new cat[" + length + "];fill a with dog;", 4);
            Trial.last("a=new cat[" + length + "][];fill a with a;", 4);
            Trial t = Trial.last("a=new long[" + length + "];fill a with 7b;b=new beast[" + length
                + "];fill b with cat;c=new beast[" + length + "][];fill c with b;", 0);
            for (int i = 0; i < length; i++) {
                Trial.due("NUMBER", t.number('a', i), 7);
                Trial.due("its KIND", t.cls('a', i), 5);
                Trial.due("the same CREATURE", t.x.same(1, i, 1, 0), true);
                Trial.due("the same ARRAY", t.x.same(2, i, 1, -1), true);
            }
        }
        Trial t = Trial.last("a=new cat[3];fill a with cat;fill a with none;", 0);
        Trial.due("none is written", t.cls('a', 0) + t.cls('a', 1) + t.cls('a', 2), -3);
    }

    private static void swaps() {
        Trial.sentence("19: missing, unlike, index");
        Trial.last("swap a[0][0];", 1);
        Trial.last("swap a[-1][9];", 1);
        for (String other : new String[] {"5", "true", "cat"}) {
            Trial.last("a=" + other + ";swap a[0][0];", 6);
            Trial.last("a=" + other + ";swap a[-1][0];", 6);
        }
        for (int i = -1; i <= 3; i++) {
            for (int j = -1; j <= 3; j++) {
                boolean fine = i >= 0 && i < 3 && j >= 0 && j < 3;
                Trial t = Trial.last("a=new int[3];a[0]=10;a[1]=11;a[2]=12;swap a[" + i + "][" + j + "];", fine ? 0 : 2);
                for (int n = 0; n < 3; n++) {
                    int due = !fine ? n : n == i ? j : n == j ? i : n;
                    Trial.due("CELL " + n, t.number('a', n), 10 + due);
                }
            }
        }
        Trial.last("a=new int[0];swap a[0][0];", 2);
        Trial.last("a=new int[3];swap a[2147483647][0];", 2);
        Trial.last("a=new int[3];swap a[0][-2147483648];", 2);
        Trial t = Trial.last("a=new beast[2];a[0]=cat;b=a[0];swap a[0][1];c=new int[2][];c[1]=none;swap c[0][1];", 0);
        Trial.due("a CREATURE", t.x.same(0, 1, 1, -1), true);
        Trial.due("and none", t.cls('a', 0), -1);
    }

    private static void turns() {
        Trial.sentence("20: missing, unlike: the CELLS the other way round");
        Trial.last("turn a;", 1);
        for (String other : new String[] {"5", "true", "cat"}) {
            Trial.last("a=" + other + ";turn a;", 6);
        }
        for (int length = 0; length <= 7; length++) {
            StringBuilder s = new StringBuilder("a=new int[" + length + "];b=new beast[" + length + "];");
            for (int i = 0; i < length; i++) {
                s.append("a[").append(i).append("]=").append(i).append(";b[").append(i).append("]=").append(NAMES[8 + i])
                    .append(';');
            }
            Trial t = Trial.last(s + "c=a;turn a;turn b;", 0);
            Trial u = Trial.last(s + "turn a;turn a;", 0);
            for (int i = 0; i < length; i++) {
                Trial.due("turned " + i + " of " + length, t.number('a', i), length - 1 - i);
                Trial.due("through another VAR", t.number('c', i), length - 1 - i);
                Trial.due("CREATURE " + i + " of " + length, t.cls('b', i), 8 + length - 1 - i);
                Trial.due("turned twice", u.number('a', i), i);
            }
        }
    }

    private static void marks() {
        Trial.sentence("21: the VALUE is a MARK, of which the first 50 of a run are kept");
        for (int marks : new int[] {0, 1, 49, 50, 51, 100}) {
            StringBuilder s = new StringBuilder(marks == 100 ? "" : "a=1;");
            for (int k = 0; k < marks; k++) {
                s.append("mark ").append(k).append(k % 2 == 0 ? "l;" : ";");
            }
            Trial t = Trial.ran(s.toString());
            Trial.due("MARKS", t.x.count(3), marks);
            for (int k = -1; k <= 101; k++) {
                boolean kept = k >= 0 && k < Math.min(50, marks);
                Trial.due("mark(" + k + ") of " + marks, t.x.mark(k, 0), kept ? 5 - k % 2 : -1);
                Trial.due("marked(" + k + ") of " + marks, t.marked(k), kept ? k : Trial.NO_SUCH);
            }
        }
        Trial t = Trial.ran("a=5;mark a;a=6;mark a;b=new int[1];b[0]=7;c=b[0];mark c;b[0]=8;mark none;mark b;");
        Trial.due("as it was then", t.marked(0), 5);
        Trial.due("and then", t.marked(1), 6);
        Trial.due("from a CELL", t.marked(2), 7);
        Trial.due("none is a MARK, too", t.x.count(3), 5);
        Trial.due("its CLASS", t.x.mark(3, 0), -1);
        Trial.due("an ARRAY's", t.x.mark(4, 0), 24);
    }
}
