/** Promises 9 and 10: run and outcome, with what each ACT does and refuses. */
public final class RunTest {
    public static void main(String[] args) {
        runs();
        indexes();
        places();
        widening();
        told();
        reflected();
        making();
        limits();
        casts();
        answers();
        hashes();
        equals();
        looking();
        copying();
        fillSwapTurn();
        Trial.finish("RunTest");
    }

    private static Trial last(String text, int refusal) {
        return Trial.last(text, refusal);
    }

    private static void is(String text, char var, long want) {
        Trial.is(text, var, want);
    }

    private static void runs() {
        Trial t = new Trial();
        Trial.due("run() without a PROGRAM", t.runAgain(), Trial.ILLEGAL_STATE);
        t.compile("a=");
        Trial.due("run() behind a FAULT", t.runAgain(), Trial.ILLEGAL_STATE);
        t.compile("a=5;take missing b=c[0];d=a[0];e=7;");
        Trial.dueText("outcomes ahead of a run", t.outcomes(), "----");
        Trial.due("run()", t.runAgain(), 3);
        Trial.dueText("outcomes", t.outcomes(), "016-");
        for (int k : new int[] {-1, 4, 99, 100, Integer.MIN_VALUE, Integer.MAX_VALUE}) {
            Trial.due("outcome(" + k + ")", t.outcome(k), Trial.NO_SUCH);
        }
        Trial.due("not done", t.cls('e'), -1);
        Trial.due("run() anew", t.runAgain(), 3);
        t.run("take index b=c[0];a=5;");
        Trial.dueText("another REFUSAL than the one taken", t.outcomes(), "1-");
        Trial.due("what the run ahead set", t.cls('a'), -1);
        // A run begins with all VARS none.
        t.compile("take missing b=size a;a=new int[3];");
        Trial.due("first run", t.runAgain(), 0);
        Trial.due("second run", t.runAgain(), 0);
        Trial.dueText("its outcomes", t.outcomes(), "10");
    }

    private static void indexes() {
        String a = "a=new int[4];a[3]=9;";
        for (String index : new String[] {"3b", "3s", "3c", "3"}) {
            is(a + "i=" + index + ";x=a[i];", 'x', 9);
        }
        for (String index : new String[] {"true", "3l", "3f", "3d", "cat", "a"}) {
            last(a + "i=" + index + ";x=a[i];", 6);
        }
        last(a + "x=a[i];", 1);
        last(a + "x=a[4];", 2);
        last(a + "x=a[-1];", 2);
        last(a + "i=-1b;x=a[i];", 2);
        last(a + "x=a[2147483647];", 2);
        last(a + "x=a[-2147483648];", 2);
        is(a + "x=a[3];", 'x', 9);
        // The indexes are looked at ahead of all else, from the left.
        last("i=true;x=a[i];", 6);
        last("i=true;x=a[j][i];", 1);
        last("i=true;x=a[i][j];", 6);
        last("i=true;write int a[i]=5b;", 6);
        last("write int a[i]=5b;", 1);
        last("i=5l;copy a[0] to b[0] for i;", 6);
        last("i=5l;copy a[0] to b[j] for i;", 1);
        last("i=5l;a=new int[-1][i];", 6);
        last("a=new int[-1][i];", 1);
        last("swap a[i][0];", 1);
        last("i=1l;swap a[0][i];", 6);
    }

    private static void places() {
        last("x=a[0];", 1);
        last("a=5;x=a[0];", 6);
        last("a=cat;x=a[0];", 6);
        last("a=new int[2][];x=a[0][0];", 1);
        last("a=new int[2][];x=a[2][0];", 2);
        last("a=new int[2][];x=a[-1][0];", 2);
        last("a=new int[2];x=a[0][0];", 6);
        last("a=new int[2];x=a[5][0];", 2);
        last("a=new cat[2];x=a[0][0];", 1);
        last("a=new cat[2];a[0]=cat;x=a[0][0];", 6);
        last("a=new int[1][1][1];x=a[0][0][1];", 2);
        last("a=new int[1][1][];x=a[0][0][1];", 1);
        is("a=new int[2][2][2];a[1][0][1]=7;x=a[1][0][1];", 'x', 7);
        Trial t = last("a=new int[2][3];x=a[1];x[2]=8;y=a[1][2];", 0);
        Trial.due("through another VAR", t.number('y'), 8);
        Trial.due("the very same", t.x.same(0, 1, 23, -1), true);
        // What is refused leaves its VAR.
        Trial u = last("x=5;x=a[0];", 1);
        Trial.due("x stays", u.number('x'), 5);
        last("a=new cat[1];a[0]=5;", 6);
        last("a=new cat[1];a[0]=true;", 6);
        last("a=new cat[1];a[0]=dog;", 4);
        last("a=new cat[1];a[0]=lion;", 0);
        last("a=new cat[1];a[0]=none;", 0);
        last("a=new cat[1];a[0]=a;", 4);
        last("a=new cat[1];a[1]=dog;", 2);
        last("a[0]=dog;", 1);
        last("a=new flier[1];a[0]=duck;a[0]=bat;a[0]=bird;", 0);
        last("a=new flier[1];a[0]=dog;", 4);
        last("a=new swimmer[1];a[0]=duck;a[0]=dog;", 0);
        last("a=new swimmer[1];a[0]=bird;", 4);
        last("a=new beast[1][];b=new lion[1];a[0]=b;", 0);
        last("a=new beast[1][];b=new flier[1];a[0]=b;", 4);
        last("a=new int[1][];b=new int[1];a[0]=b;", 0);
        last("a=new long[1][];b=new int[1];a[0]=b;", 4);
        last("a=new int[1][];a[0]=a;", 4);
        last("a=new int[1][];a[0]=5;", 6);
        last("a=new int[1];a[0]=none;", 6);
        last("a=new int[1];a[0]=cat;", 6);
        last("a=new int[1];a[1]=cat;", 2);
    }

    private static final String[] KINDS = "truth byte short char int long float double".split(" ");
    private static final String[] ONES = "true 1b 1s 1c 1 1l 1f 1d".split(" ");

    private static boolean widens(int from, int to) {
        return from == to || from != 0 && to > 3 && from < to || from == 1 && to == 2;
    }

    private static void widening() {
        for (int from = 0; from < 8; from++) {
            for (int to = 0; to < 8; to++) {
                int due = widens(from, to) ? 0 : 6;
                String a = "a=new " + KINDS[to] + "[1];";
                last(a + "a[0]=" + ONES[from] + ";", due);
                last(a + "fill a with " + ONES[from] + ";", due);
                last(a + "put a[0]=" + ONES[from] + ";", due);
                last(a + "write " + KINDS[from] + " a[0]=" + ONES[from] + ";", due);
                String b = "b=new " + KINDS[from] + "[1];b[0]=" + ONES[from] + ";";
                Trial t = last(b + "x=read " + KINDS[to] + " b[0];", due);
                Trial.due("KIND read", t.cls('x'), due == 0 ? to : -1);
                Trial.due("NUMBER read", t.number('x'), due == 0 ? 1 : Trial.NO_SUCH);
                Trial u = last(a + "take unlike a[0]=" + ONES[from] + ";x=a[0];", 0);
                Trial.due("KIND of the CELL", u.cls('x'), to);
                Trial.due("NUMBER of the CELL", u.number('x'), due == 0 ? 1 : 0);
            }
        }
        is("x=16777217f;", 'x', 16777216);
        is("x=16777219f;", 'x', 16777220);
        is("x=-16777217f;", 'x', -16777216);
        is("x=9007199254740993d;", 'x', 9007199254740992L);
        is("x=9007199254740995d;", 'x', 9007199254740996L);
        is("x=9223372036854775807d;", 'x', Long.MAX_VALUE);
        is("x=9223372036854775807f;", 'x', Long.MAX_VALUE);
        is("x=-9223372036854775808d;", 'x', Long.MIN_VALUE);
        is("x=-9223372036854775807f;", 'x', Long.MIN_VALUE);
        is("x=9223372036854775295d;", 'x', 9223372036854774784L);
        is("a=new float[1];a[0]=16777217;x=a[0];", 'x', 16777216);
        is("a=new float[1];a[0]=9007199791611905l;x=a[0];", 'x', (long) (float) 9007199791611905L);
        is("a=new double[1];a[0]=9007199254740993l;x=a[0];", 'x', 9007199254740992L);
        is("a=new double[1];a[0]=9223372036854775807f;x=a[0];", 'x', Long.MAX_VALUE);
        is("a=new long[1];a[0]=9223372036854775807l;x=read float a[0];y=9223372036854775807f;z=same x y;", 'z', 1);
        is("a=new char[1];a[0]=65535c;x=read int a[0];", 'x', 65535);
        is("a=new byte[1];a[0]=-128b;x=read short a[0];", 'x', -128);
        is("x=9223372036854775807d;y=9223372036854774784d;z=same x y;", 'z', 0);
    }

    private static void told() {
        last("x=read int a[0];", 1);
        last("a=5;x=read int a[0];", 6);
        last("a=cat;x=read int a[0];", 6);
        last("a=new cat[1];x=read int a[5];", 6);
        last("a=new int[1][1];x=read int a[0];", 6);
        last("a=new int[1][];x=read int a[0][0];", 1);
        last("a=new int[1];x=read int a[1];", 2);
        last("a=new int[1];x=read byte a[1];", 2);
        last("a=new int[1];x=read byte a[0];", 6);
        last("a=new int[1];x=read int a[0][0];", 6);
        last("a=new int[1];x=read int a[1][0];", 2);
        last("write int a[0]=5b;", 6);
        last("write int a[0]=none;", 6);
        last("write int a[0]=cat;", 6);
        last("write int a[0]=5;", 1);
        last("a=5;write int a[0]=5;", 6);
        last("a=new cat[1];write int a[5]=5;", 6);
        last("a=new int[1];write int a[5]=5l;", 6);
        last("a=new int[1];write int a[5]=5;", 2);
        last("a=new byte[1];write int a[5]=5;", 2);
        last("a=new byte[1];write int a[0]=5;", 6);
        is("a=new long[1];write int a[0]=5;x=a[0];", 'x', 5);
        last("a=new int[1][1];write int a[0][0]=5;", 0);
        last("a=new int[1][1];write int a[0]=5;", 6);
        last("a=new int[1][1];write int a[1][0]=5;", 2);
    }

    private static void reflected() {
        last("x=get a[0];", 1);
        last("a=5;x=get a[0];", 6);
        last("a=new int[1];x=get a[1];", 2);
        is("a=new int[1];a[0]=6;x=get a[0];", 'x', 6);
        Trial t = last("a=new cat[1];c=lion;a[0]=c;x=get a[0];", 0);
        Trial.due("a CREATURE", t.x.same(23, -1, 2, -1), true);
        last("put a[0]=5;", 1);
        last("a=cat;put a[0]=5;", 6);
        last("a=new int[1];put a[1]=cat;", 6);
        last("a=new int[1];put a[1]=none;", 6);
        last("a=new int[1];put a[1]=5l;", 2);
        last("a=new int[1];put a[1]=5;", 2);
        last("a=new int[1];put a[0]=5l;", 6);
        last("a=new cat[1];put a[1]=5;", 2);
        last("a=new cat[1];put a[0]=5;", 6);
        last("a=new cat[1];put a[0]=dog;", 6);
        last("a=new cat[1];put a[0]=none;put a[0]=lion;", 0);
        last("a=new cat[1];put a[0]=a;", 6);
        last("a=new cat[1][];b=new lion[1];put a[0]=b;", 0);
        is("a=new double[1];put a[0]=5c;x=a[0];", 'x', 5);
        last("a=new int[1][];put a[0][0]=5;", 1);
    }

    private static void making() {
        last("a=new int[-1];", 3);
        last("a=new int[0][-1];", 3);
        last("a=new int[9999][-1];", 3);
        last("a=new int[1][2][-2147483648];", 3);
        last("i=-1b;a=new int[i];", 3);
        Trial t = last("a=new flier[2][3][];b=new char[2];c=new cat[0];d=new int[0][5][5];e=new truth[1][1][1];", 0);
        Trial.due("CLASS of a", t.cls('a'), 75);
        Trial.due("length of a", t.length('a'), 2);
        Trial.due("CLASS of a[1]", t.cls('a', 1), 55);
        Trial.due("length of a[1]", t.length('a', 1), 3);
        Trial.due("a[1][2]", t.cls('a', 1, 2), -1);
        Trial.due("CLASS of b[1]", t.cls('b', 1), 3);
        Trial.due("b[1]", t.number('b', 1), 0);
        Trial.due("CLASS of c", t.cls('c'), 29);
        Trial.due("length of c", t.length('c'), 0);
        Trial.due("CLASS of d", t.cls('d'), 64);
        Trial.due("CLASS of e[0][0][0]", t.cls('e', 0, 0, 0), 0);
        Trial.due("e[0][0][0]", t.number('e', 0, 0, 0), 0);
        Trial.due("others than a[0]", t.x.same(0, 0, 0, 1), false);
        Trial.due("ARRAYS", t.x.count(4), 3 + 1 + 1 + 1 + 3);
        Trial.due("CELLS", t.x.count(5), 2 + 6 + 2 + 0 + 0 + 3);
        last("a=clone b;", 1);
        last("b=5;a=clone b;", 6);
        last("b=cat;a=clone b;", 6);
        Trial u = last("b=new int[2][2];b[1][1]=4;a=clone b;b[0]=none;a[1][0]=3;", 0);
        Trial.due("a clone is another", u.x.same(0, -1, 1, -1), false);
        Trial.due("with the same CELLS", u.x.same(0, 1, 1, 1), true);
        Trial.due("of the same CLASS", u.cls('a'), 44);
        Trial.due("its own CELLS", u.cls('a', 0), 24);
        Trial.due("shared below", u.number('b', 1, 0), 3);
        Trial.due("its ARRAYS", u.x.count(4), 4);
        Trial.due("its CELLS", u.x.count(5), 8);
    }

    private static void limits() {
        last("a=new int[500];", 0);
        last("a=new int[501];", 7);
        last("a=new int[2147483647];", 7);
        last("a=new int[2147483647][2147483647][2147483647];", 7);
        last("a=new int[0][2147483647][2147483647];", 0);
        last("a=new int[20][24];", 0);
        last("a=new int[20][25];", 7);
        last("a=new int[4][4][30];", 0);
        last("a=new int[10][10][4];", 7);
        last("a=new int[65536][65536];", 7);
        last("a=new int[1][2147483647];", 7);
        last("a=new int[199][0];", 0);
        last("a=new int[200][0];", 7);
        last("a=new int[200][];", 0);
        last("a=new int[14][13][0];", 0);
        last("a=new int[14][14][0];", 7);
        Trial t = last("a=new int[500];".repeat(8) + "b=new int[0];c=new cat[1];", 7);
        Trial.due("4000 CELLS", t.x.count(5), 4000);
        Trial.due("9 ARRAYS", t.x.count(4), 9);
        Trial.due("none made", t.cls('c'), -1);
        last("a=new int[500];".repeat(7) + "b=new int[499];c=new int[1];c=new int[0];", 0);
        last("a=new int[500];".repeat(7) + "b=new int[499];c=new int[2];", 7);
        last("a=new int[500];".repeat(7) + "b=new int[499];c=new int[1];d=clone c;", 7);
        last("a=new int[500];".repeat(8) + "c=new int[0];d=clone c;", 0);
        last("a=new int[99][0];b=new int[99][0];", 0);
        last("a=new int[99][0];b=new int[99][0];c=new int[0];", 7);
        last("a=new int[99][0];b=new int[99][0];a=clone a;", 7);
        last("a=new int[500];b=clone a;", 0);
        // What was refused is not counted, and what is not in a VAR any longer is.
        last("take large a=new int[501];".repeat(8) + "a=new int[500];".repeat(8), 0);
        last("a=new int[500];a=none;".repeat(8) + "a=new int[1];", 7);
        Trial u = new Trial();
        u.compile("a=new int[500];".repeat(8));
        for (int n = 0; n < 5; n++) {
            Trial.due("run anew", u.runAgain(), 0);
        }
    }

    private static void casts() {
        last("b=cast a cat;", 0);
        last("a=5;b=cast a int;", 0);
        last("a=5;b=cast a long;", 6);
        last("a=5;b=cast a cat;", 6);
        last("a=5;b=cast a int[];", 6);
        last("a=lion;b=cast a beast;c=cast a cat;d=cast a lion;", 0);
        last("a=cat;b=cast a lion;", 5);
        last("a=cat;b=cast a int;", 5);
        last("a=cat;b=cast a cat[];", 5);
        last("a=new lion[1];b=cast a cat[];", 0);
        last("a=new lion[1];b=cast a flier[];", 5);
        last("a=new duck[1];b=cast a flier[];b=cast a swimmer[];b=cast a bird[];b=cast a beast[];", 0);
        last("a=new lion[1];b=cast a cat;", 5);
        last("a=new lion[1];b=cast a cat[][];", 5);
        last("a=new int[1];b=cast a int[];", 0);
        last("a=new int[1];b=cast a long[];", 5);
        Trial t = last("a=new lion[1];b=cast a cat[];", 0);
        Trial.due("the very same", t.x.same(0, -1, 1, -1), true);
        Trial.due("its own CLASS", t.cls('b'), 30);
        Trial u = last("b=7;b=cast a cat;", 0);
        Trial.due("none stays", u.cls('b'), -1);
        is("x=is a cat;", 'x', 0);
        is("a=cat;x=is a cat;", 'x', 1);
        is("a=cat;x=is a beast;", 'x', 1);
        is("a=cat;x=is a lion;", 'x', 0);
        is("a=5;x=is a int;", 'x', 1);
        is("a=5;x=is a long;", 'x', 0);
        is("a=new duck[1];x=is a flier[];", 'x', 1);
        is("a=new duck[1];x=is a cat[];", 'x', 0);
        is("a=new duck[1];x=is a flier[][];", 'x', 0);
        Trial.due("a truth", last("x=is a cat;", 0).cls('x'), 0);
    }

    private static void answers() {
        is("x=same a b;", 'x', 1);
        is("a=5;x=same a b;", 'x', 0);
        is("a=5;b=5;x=same a b;", 'x', 1);
        is("a=5;b=5l;x=same a b;", 'x', 0);
        is("a=5f;b=5f;x=same a b;", 'x', 1);
        is("a=0d;b=-0d;x=same a b;", 'x', 1);
        is("a=16777216f;b=16777217f;x=same a b;", 'x', 1);
        is("a=cat;b=cat;x=same a b;", 'x', 0);
        is("a=cat;b=a;x=same a b;", 'x', 1);
        is("a=new int[0];b=new int[0];x=same a b;", 'x', 0);
        is("a=new int[0];b=a;x=same a b;", 'x', 1);
        is("a=false;x=same a b;", 'x', 0);
        is("a=new cat[3];fill a with cat;b=a[0];c=a[2];x=same b c;", 'x', 1);
        last("x=size a;", 1);
        last("a=5;x=size a;", 6);
        last("a=cat;x=size a;", 6);
        is("a=new int[7][2];x=size a;", 'x', 7);
        Trial.due("an int", last("a=new int[7];x=size a;", 0).cls('x'), 4);
        is("x=class a;", 'x', -1);
        is("a=5d;x=class a;", 'x', 7);
        is("a=true;x=class a;", 'x', 0);
        is("a=bat;x=class a;", 'x', 14);
        is("a=new swimmer[1][][];x=class a;", 'x', 76);
        Trial.due("an int", last("x=class a;", 0).cls('x'), 4);
    }

    private static void hashes() {
        is("x=hash a;", 'x', 0);
        is("a=5;x=hash a;", 'x', 5);
        is("a=-1;x=hash a;", 'x', 0);
        is("a=-5b;x=hash a;", 'x', 4);
        is("a=true;x=hash a;", 'x', 1);
        is("a=4294967297l;x=hash a;", 'x', 0);
        is("a=9223372036854775807d;x=hash a;", 'x', Integer.MIN_VALUE);
        is("a=2147483648l;x=hash a;", 'x', Integer.MIN_VALUE);
        is("a=16777217f;x=hash a;", 'x', 16777216);
        is("a=duck;x=hash a;", 'x', 13);
        is("a=new int[0];x=hash a;", 'x', 24);
        is("a=new int[2];a[0]=3;a[1]=4;x=hash a;", 'x', (24 * 31 + 3) * 31 + 4);
        is("a=new cat[2];a[1]=lion;x=hash a;", 'x', (29 * 31) * 31 + 10);
        is("a=new int[1][1];a[0][0]=9;x=hash a;", 'x', 44 * 31 + 24 * 31 + 9);
        int h = 25;
        for (int i = 0; i < 40; i++) {
            h = 31 * h + 7;
        }
        is("a=new long[40];fill a with 7l;x=hash a;", 'x', h);
        Trial.due("an int", last("a=5l;x=hash a;", 0).cls('x'), 4);
    }

    private static void equals() {
        is("x=equal a b;", 'x', 1);
        is("a=5;x=equal a b;", 'x', 0);
        is("a=5;x=equal b a;", 'x', 0);
        is("a=5;b=5;x=equal a b;", 'x', 1);
        is("a=5;b=5l;x=equal a b;", 'x', 0);
        is("a=cat;b=cat;x=equal a b;", 'x', 0);
        is("a=cat;b=a;x=equal a b;", 'x', 1);
        is("a=new int[2];b=new int[2];x=equal a b;", 'x', 1);
        is("a=new int[2];b=new int[3];x=equal a b;", 'x', 0);
        is("a=new int[2];b=new long[2];x=equal a b;", 'x', 0);
        is("a=new int[2];b=new int[2];b[1]=1;x=equal a b;", 'x', 0);
        is("a=new int[2][2];b=new int[2][2];x=equal a b;", 'x', 1);
        is("a=new int[2][2];b=new int[2][2];b[1][1]=1;x=equal a b;", 'x', 0);
        is("a=new int[2][2];b=new int[2][];x=equal a b;", 'x', 0);
        is("a=new cat[1];b=new cat[1];a[0]=cat;b[0]=cat;x=equal a b;", 'x', 0);
        is("a=new cat[1];b=new cat[1];c=cat;a[0]=c;b[0]=c;x=equal a b;", 'x', 1);
        is("a=new cat[0];b=new lion[0];x=equal a b;", 'x', 0);
        for (int cls = 20; cls < 80; cls++) {
            if (cls % 20 < 17) {
                String name = new Trial().nameOf(cls);
                String made = name.substring(0, name.indexOf('[')) + "[2]" + "[]".repeat(cls / 20 - 1);
                is("a=new " + made + ";b=new " + made + ";x=equal a b;", 'x', 1);
                is("a=new " + made + ";x=hash a;", 'x', cls * 31 * 31);
            }
        }
        Trial.due("a truth", last("x=equal a b;", 0).cls('x'), 0);
    }

    /** The 20000 CELLS that hash and equal may look at. */
    private static void looking() {
        // 40 CELLS that are the same ARRAY of 499 each: 40 + 40 * 499 = 20000.
        String most = "a=new int[40][];b=new int[499];fill a with b;";
        last(most + "x=hash a;", 0);
        last(most + "x=equal a a;", 0);
        is(most + "x=equal a a;", 'x', 1);
        String more = "a=new int[40][];b=new int[499];c=new int[500];fill a with b;a[39]=c;";
        last(more + "x=hash a;", 7);
        last(more + "x=equal a a;", 7);
        is(more + "d=clone a;d[38]=c;x=equal a d;", 'x', 0);
        is(more + "d=clone a;e=clone c;e[499]=1;d[39]=e;x=1;take large x=equal a d;y=x;", 'y', 1);
        is(more + "d=clone a;e=clone c;e[498]=1;d[39]=e;x=equal a d;", 'x', 0);
        is(more + "x=3;take large x=hash a;y=x;", 'y', 3);
        // The very same three times over, each as often as it is come to.
        last("a=new int[500][][];b=new int[500][];c=new int[500];fill b with c;fill a with b;x=hash a;", 7);
        last("a=new int[500][][];b=new int[500][];c=new int[500];fill b with c;fill a with b;x=equal a a;", 7);
        is("a=new int[500][][];b=new int[500][];x=hash b;take large y=hash a;z=hash a;w=same y z;", 'w', 1);
        // Each STEP looks anew.
        last(most + "x=hash a;x=hash a;x=equal a a;", 0);
        // An empty ARRAY at the 20001st place is looked at no further.
        last("a=new int[40][];b=new int[499];fill a with b;d=new int[1][];x=equal d d;x=hash a;", 0);
    }

    private static void copying() {
        last("copy a[0] to b[0] for 0;", 1);
        last("b=new int[1];copy a[0] to b[0] for 0;", 1);
        last("a=new int[1];copy a[0] to b[0] for 0;", 1);
        last("a=5;copy a[0] to b[0] for 0;", 1);
        last("b=5;copy a[0] to b[0] for 0;", 1);
        last("a=5;b=new int[1];copy a[0] to b[0] for 0;", 6);
        last("a=new int[1];b=cat;copy a[0] to b[0] for 0;", 6);
        last("a=new int[1];b=new long[1];copy a[0] to b[0] for -1;", 6);
        last("a=new int[1];b=new cat[1];copy a[0] to b[0] for 0;", 6);
        last("a=new int[1][];b=new int[1];copy a[0] to b[0] for 0;", 6);
        last("a=new int[1][];b=new cat[1];copy a[0] to b[0] for 1;", 0);
        last("a=new int[1][1];b=new cat[1];copy a[0] to b[0] for 1;", 4);
        last("a=new int[1][1];b=new long[1][];copy a[0] to b[0] for 1;", 4);
        String ab = "a=new int[3];b=new int[2];";
        last(ab + "copy a[0] to b[0] for 2;", 0);
        last(ab + "copy a[0] to b[0] for 3;", 2);
        last(ab + "copy a[2] to b[0] for 2;", 2);
        last(ab + "copy a[-1] to b[0] for 1;", 2);
        last(ab + "copy a[0] to b[-1] for 1;", 2);
        last(ab + "copy a[0] to b[0] for -1;", 2);
        last(ab + "copy a[3] to b[2] for 0;", 0);
        last(ab + "copy a[4] to b[0] for 0;", 2);
        last(ab + "copy a[0] to b[3] for 0;", 2);
        last(ab + "copy a[2147483647] to b[0] for 1;", 2);
        last(ab + "copy a[0] to b[2147483647] for 2147483647;", 2);
        last(ab + "copy a[-2147483648] to b[0] for -2147483648;", 2);
        is(ab + "a[1]=4;a[2]=5;copy a[1] to b[0] for 2;x=b[1];", 'x', 5);
        Trial t = last("a=new beast[4];a[0]=cat;a[1]=none;a[2]=dog;a[3]=cat;b=new cat[5];c=lion;fill b with c;"
            + "take store copy a[0] to b[1] for 4;c=5;", 0);
        Trial.due("store", t.outcome(t.x.count(0) - 2), 4);
        Trial.due("kept ahead of it", t.cls('b', 0), 10);
        Trial.due("copied", t.x.same(1, 1, 0, 0), true);
        Trial.due("none copied", t.cls('b', 2), -1);
        Trial.due("kept from there on", t.cls('b', 3), 10);
        Trial.due("kept from there on", t.cls('b', 4), 10);
        for (int[] move : new int[][] {{0, 1}, {1, 0}, {0, 2}, {2, 0}, {1, 1}}) {
            Trial u = last("a=new int[5];a[0]=10;a[1]=11;a[2]=12;a[3]=13;a[4]=14;copy a[" + move[0] + "] to a["
                + move[1] + "] for 3;", 0);
            Trial v = last("a=new beast[5];a[0]=beast;a[1]=cat;a[2]=lion;a[3]=dog;a[4]=bird;b=a;copy a["
                + move[0] + "] to b[" + move[1] + "] for 3;", 0);
            for (int i = 0; i < 5; i++) {
                boolean in = i >= move[1] && i < move[1] + 3;
                int from = in ? i - move[1] + move[0] : i;
                Trial.due("moved NUMBER " + i, u.number('a', i), 10 + from);
                Trial.due("moved CREATURE " + i, v.cls('a', i), 8 + from);
            }
        }
        last("a=new cat[2];b=new beast[2];fill a with cat;copy a[0] to b[0] for 2;", 0);
        last("a=new duck[2];b=new flier[2];fill a with duck;copy a[0] to b[0] for 2;", 0);
        last("a=new flier[2];b=new duck[2];fill a with duck;copy a[0] to b[0] for 2;", 0);
        last("a=new flier[2];b=new duck[2];fill a with bird;copy a[0] to b[0] for 2;", 4);
        last("a=new flier[2];b=new duck[2];fill a with bird;copy a[0] to b[0] for 0;", 0);
    }

    private static void fillSwapTurn() {
        last("fill a with 5;", 1);
        last("a=5;fill a with 5;", 6);
        last("a=new int[0];fill a with cat;", 0);
        last("a=new cat[0];fill a with dog;", 0);
        last("a=new cat[1];fill a with dog;", 4);
        last("a=new cat[1];fill a with 5;", 6);
        last("a=new int[2];fill a with none;", 6);
        last("a=new int[2];fill a with 5l;", 6);
        Trial t = last("a=new double[3];fill a with 5c;b=new beast[3];fill b with cat;fill b with none;", 0);
        Trial.due("filled", t.number('a', 2), 5);
        Trial.due("with none", t.cls('b', 2), -1);
        last("swap a[0][0];", 1);
        last("a=cat;swap a[0][0];", 6);
        last("a=new int[2];swap a[0][2];", 2);
        last("a=new int[2];swap a[-1][0];", 2);
        Trial u = last("a=new int[3];a[0]=1;a[1]=2;a[2]=3;swap a[0][2];swap a[1][1];", 0);
        Trial.due("swapped", u.number('a', 0) * 100 + u.number('a', 1) * 10 + u.number('a', 2), 321);
        last("turn a;", 1);
        last("a=5;turn a;", 6);
        last("a=new int[0];turn a;", 0);
        for (int n = 1; n <= 6; n++) {
            StringBuilder s = new StringBuilder("a=new int[" + n + "];");
            for (int i = 0; i < n; i++) {
                s.append("a[").append(i).append("]=").append(i).append(';');
            }
            Trial v = last(s + "turn a;", 0);
            for (int i = 0; i < n; i++) {
                Trial.due("turned " + i + " of " + n, v.number('a', i), n - 1 - i);
            }
        }
        Trial v = last("a=new cat[2][1];b=a[0];c=a[1];turn a;", 0);
        Trial.due("turned ARRAYS", v.x.same(0, 0, 2, -1) && v.x.same(0, 1, 1, -1), true);
    }
}
