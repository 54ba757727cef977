/** Promises 11 to 15: look, value, same, mark, marked. */
public final class LookTest {
    private static final int[] WILD = {-2, -3, 26, 27, 99, Integer.MIN_VALUE, Integer.MAX_VALUE};

    public static void main(String[] args) {
        look();
        value();
        same();
        marks();
        Trial.finish("LookTest");
    }

    private static final String TEXT = "a=new lion[2][3][4];b=new cat[2][];c=new double[2];c[1]=9223372036854775807d;"
        + "d=dog;e=7c;h=a[1][2];b[1]=h;b=new beast[2][2];x=b[1];x[1]=duck;z=true;f=new long[1];f[0]=-5l;g=new int[0];";

    private static void look() {
        Trial t = Trial.ran(TEXT);
        // VAR, path, what is due of 0 and of 1
        int[][] due = {
            {0, -1, -1, -1, 70, 2}, {0, 0, -1, -1, 50, 3}, {0, 1, 2, -1, 30, 4}, {0, 1, 2, 3, -1, -1},
            {0, 1, 2, 4, -2, -1}, {0, 1, 3, -1, -2, -1}, {0, 2, -1, -1, -2, -1}, {0, 2, 0, 0, -2, -1},
            {0, -1, 5, 5, 70, 2}, {0, 1, -1, 99, 50, 3}, {0, -2, -1, -1, -2, -1}, {0, 0, -2, -1, -2, -1},
            {0, 0, 0, -2, -2, -1}, {1, 1, 1, -1, 13, -1}, {1, 1, 0, -1, -1, -1}, {1, 1, 1, 0, -2, -1},
            {1, 1, 0, 0, -2, -1}, {2, -1, -1, -1, 27, 2}, {2, 0, -1, -1, 7, -1}, {2, 1, -1, -1, 7, -1},
            {2, 1, 0, -1, -2, -1}, {3, -1, -1, -1, 11, -1}, {3, 0, -1, -1, -2, -1}, {4, -1, -1, -1, 3, -1},
            {4, 0, -1, -1, -2, -1}, {6, -1, -1, -1, 24, 0}, {6, 0, -1, -1, -2, -1}, {24, -1, -1, -1, -1, -1},
            {24, 0, -1, -1, -2, -1}, {25, -1, -1, -1, 0, -1}};
        for (int[] d : due) {
            String call = "look(" + d[0] + ", " + d[1] + ", " + d[2] + ", " + d[3] + ", ";
            Trial.due(call + "0)", t.x.look(d[0], d[1], d[2], d[3], 0), d[4]);
            Trial.due(call + "1)", t.x.look(d[0], d[1], d[2], d[3], 1), d[5]);
            for (int what : new int[] {-1, 2, 3, Integer.MIN_VALUE, Integer.MAX_VALUE}) {
                Trial.due(call + what + ")", t.x.look(d[0], d[1], d[2], d[3], what), -1);
            }
        }
        for (int v : new int[] {-1, -2, 26, 27, Integer.MIN_VALUE, Integer.MAX_VALUE}) {
            Trial.due("look of VAR " + v, t.x.look(v, -1, -1, -1, 0), -2);
            Trial.due("length of VAR " + v, t.x.look(v, -1, -1, -1, 1), -1);
            Trial.due("2 of VAR " + v, t.x.look(v, -1, -1, -1, 2), -1);
        }
        for (int i : WILD) {
            Trial.due("look at " + i, t.x.look(0, i, -1, -1, 0), -2);
            Trial.due("look at 0, " + i, t.x.look(0, 0, i, -1, 0), -2);
            Trial.due("look at 0, 0, " + i, t.x.look(0, 0, 0, i, 0), -2);
        }
    }

    private static void value() {
        Trial t = Trial.ran(TEXT);
        Trial.due("c[1]", t.number('c', 1), Long.MAX_VALUE);
        Trial.due("c[0]", t.number('c', 0), 0);
        Trial.due("e", t.number('e'), 7);
        Trial.due("z", t.number('z'), 1);
        Trial.due("f[0]", t.number('f', 0), -5);
        Trial.due("f[0] without the rest", t.value(5, 0, -1, 44), -5);
        Trial.due("e without the rest", t.value(4, -1, 7, 44), 7);
        int[][] none = {{0, -1, -1, -1}, {0, 0, -1, -1}, {0, 0, 0, 0}, {3, -1, -1, -1}, {4, 0, -1, -1},
            {5, 1, -1, -1}, {5, 0, 0, -1}, {24, -1, -1, -1}, {26, -1, -1, -1}, {-1, -1, -1, -1},
            {Integer.MAX_VALUE, -1, -1, -1}, {Integer.MIN_VALUE, 0, 0, 0}, {5, -2, -1, -1}};
        for (int[] d : none) {
            Trial.due("value(" + d[0] + ", " + d[1] + ", " + d[2] + ", " + d[3] + ")",
                t.value(d[0], d[1], d[2], d[3]), Trial.NO_SUCH);
        }
        Trial u = Trial.ran("a=new int[1][1][1];a[0][0][0]=6;");
        Trial.due("at the end of a path", u.number('a', 0, 0, 0), 6);
    }

    private static void same() {
        Trial t = Trial.ran("a=new beast[3];a[0]=cat;b=a[0];a[1]=b;c=a;d=5;e=5;f=new int[2];f[0]=5;f[1]=5;");
        boolean[] due = {
            t.x.same(0, -1, 2, -1), t.x.same(0, 0, 0, 1), t.x.same(0, 0, 1, -1), t.x.same(1, -1, 2, 1),
            t.x.same(0, 0, 0, 0), t.x.same(5, -1, 5, -1)};
        for (int n = 0; n < due.length; n++) {
            Trial.due("same " + n, due[n], true);
        }
        boolean[] not = {
            t.x.same(0, -1, 0, 0), t.x.same(0, 2, 0, 2), t.x.same(3, -1, 4, -1), t.x.same(3, -1, 3, -1),
            t.x.same(5, 0, 5, 1), t.x.same(5, 0, 5, 0), t.x.same(24, -1, 24, -1), t.x.same(24, -1, 25, -1),
            t.x.same(0, 3, 0, 3), t.x.same(0, -2, 0, -2), t.x.same(26, -1, 26, -1), t.x.same(-1, -1, -1, -1),
            t.x.same(0, -1, 5, -1), t.x.same(0, 0, 26, -1), t.x.same(26, -1, 0, 0), t.x.same(1, 0, 1, 0),
            t.x.same(0, Integer.MAX_VALUE, 0, Integer.MIN_VALUE), t.x.same(0, 0, 0, 2), t.x.same(0, 2, 0, 0)};
        for (int n = 0; n < not.length; n++) {
            Trial.due("not the same " + n, not[n], false);
        }
        Trial u = Trial.ran("a=cat;b=cat;");
        Trial.due("two cats", u.x.same(0, -1, 1, -1), false);
        Trial.due("one cat", u.x.same(0, -1, 0, -1), true);
    }

    private static void marks() {
        Trial t = Trial.ran("mark 5;mark none;mark cat;a=new int[3][];mark a;mark -7l;mark true;mark 16777217f;"
            + "b=new int[1];b[0]=3;mark b;c=b[0];mark c;b[0]=4;c=9;");
        int[] classes = {4, -1, 9, 44, 5, 0, 6, 24, 4};
        long[] numbers = {5, Trial.NO_SUCH, Trial.NO_SUCH, Trial.NO_SUCH, -7, 1, 16777216, Trial.NO_SUCH, 3};
        for (int k = 0; k < classes.length; k++) {
            Trial.due("mark(" + k + ", 0)", t.x.mark(k, 0), classes[k]);
            Trial.due("marked(" + k + ")", t.marked(k), numbers[k]);
            for (int what : new int[] {-1, 1, 2, Integer.MIN_VALUE, Integer.MAX_VALUE}) {
                Trial.due("mark(" + k + ", " + what + ")", t.x.mark(k, what), -1);
            }
        }
        for (int k : new int[] {-1, 9, 49, 50, Integer.MIN_VALUE, Integer.MAX_VALUE}) {
            Trial.due("mark(" + k + ", 0)", t.x.mark(k, 0), -1);
            Trial.due("marked(" + k + ")", t.marked(k), Trial.NO_SUCH);
        }
        t.run("mark 1;");
        Trial.due("the marks of the run ahead", t.marked(1), Trial.NO_SUCH);
        StringBuilder s = new StringBuilder();
        for (int k = 0; k < 60; k++) {
            s.append("mark ").append(k).append(';');
        }
        t.run(s.toString());
        Trial.due("made", t.x.count(3), 60);
        for (int k = 0; k < 60; k++) {
            Trial.due("marked(" + k + ") of 60", t.marked(k), k < 50 ? k : Trial.NO_SUCH);
            Trial.due("mark(" + k + ") of 60", t.x.mark(k, 0), k < 50 ? 4 : -1);
        }
        t.compile("mark 5;");
        Trial.due("behind compile()", t.x.mark(0, 0), -1);
        Trial.due("behind compile()", t.marked(0), Trial.NO_SUCH);
    }
}
