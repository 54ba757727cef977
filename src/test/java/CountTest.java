/** Promise 21: count. */
public final class CountTest {
    public static void main(String[] args) {
        counts();
        others();
        Trial.finish("CountTest");
    }

    private static void dueAll(String when, Trial t, int... due) {
        for (int what = 0; what < due.length; what++) {
            Trial.due(when + ": count(" + what + ")", t.x.count(what), due[what]);
        }
    }

    private static void counts() {
        Trial t = new Trial();
        dueAll("new", t, 0, 0, 0, 0, 0, 0, 0, 0, 0, 0);
        t.tape("guess none a=new int[2][3];guess index a[0]=5;b=5;");
        dueAll("fed", t, 0, 50, 0, 0, 0, 0, 0, 0, 0, 0);
        t.x.compile();
        dueAll("compiled", t, 3, 0, 0, 0, 0, 0, 0, 0, 0, 0);
        t.spell(2);
        dueAll("spelled", t, 3, 0, 6, 0, 0, 0, 0, 0, 0, 0);
        t.runAgain();
        dueAll("run", t, 3, 0, 6, 0, 3, 8, 2, 2, 1, 0);
        t.runAgain();
        dueAll("run anew", t, 3, 0, 6, 0, 3, 8, 2, 2, 1, 0);
        t.compile("a=");
        dueAll("behind a FAULT", t, 3, 2, 6, 0, 3, 8, 2, 2, 1, 0);
        t.compile("guess index take unlike a=a[b];guess missing take missing a=a[b];");
        dueAll("compiled anew", t, 2, 0, 6, 0, 0, 0, 0, 0, 0, 0);
        t.runAgain();
        dueAll("ended by another REFUSAL than it takes", t, 2, 0, 6, 0, 0, 0, 1, 1, 0, 0);
        t.run("guess missing take missing x=a[0];guess none x=1;guess none take missing x=a[0];mark x;"
            + "guess cast mark x;guess unlike x=size x;mark x;");
        dueAll("guesses", t, 7, 0, 6, 2, 0, 0, 6, 5, 3, 2);
        t.run("mark 1;".repeat(100));
        dueAll("marks beyond 50", t, 100, 0, 6, 100, 0, 0, 100, 0, 0, 0);
        t.run("a=new int[3];a=clone a;take large a=new int[501];take size a=new int[-1];take cast b=cast a cat;");
        dueAll("what was refused makes nothing", t, 5, 0, 6, 0, 2, 6, 5, 0, 0, 3);
        t.x.feed(0, 0, 0, 0, 0);
        Trial.due("tape", t.x.count(1), 20);
        t.x.end(13);
        Trial.due("tape", t.x.count(1), 13);
    }

    private static void others() {
        Trial t = Trial.ran("a=5;mark a;");
        for (int what : new int[] {-1, -2, 10, 11, 100, Integer.MIN_VALUE, Integer.MAX_VALUE}) {
            Trial.due("count(" + what + ")", t.x.count(what), -1);
        }
    }
}
