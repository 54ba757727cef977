/** Promises 16 to 20: named, name, below, stores, copies, each for all CLASSES. */
public final class ClassTest {
    private static final String[] NAMES =
        ("truth byte short char int long float double beast cat lion dog bird duck bat flier swimmer").split(" ");
    // What each KIND from 8 on is, written out.
    private static final String[] IS = {
        "beast", "beast cat", "beast cat lion", "beast dog swimmer", "beast bird flier",
        "beast bird duck flier swimmer", "beast bat flier", "flier", "swimmer"};
    private static final int[] WILD = {-2, -1, 80, 81, 84, 100, Integer.MIN_VALUE, Integer.MAX_VALUE};

    public static void main(String[] args) {
        named();
        names();
        belowAll();
        storesAll();
        copiesAll();
        Trial.finish("ClassTest");
    }

    private static boolean isClass(int c) {
        return c >= 0 && c < 80 && c % 20 < 17 && (c >= 20 || c < 15);
    }

    private static boolean isArrays(int c) {
        return c >= 20 && isClass(c);
    }

    private static void named() {
        Trial t = new Trial();
        for (int kind = 0; kind < 17; kind++) {
            for (int dims = 0; dims <= 4; dims++) {
                int c = kind + 20 * dims;
                int due = isClass(c) ? c : -1;
                Trial.due("named " + NAMES[kind] + " " + dims, t.named(NAMES[kind] + "[]".repeat(dims)), due);
                Trial.due("tape", t.x.count(1), 0);
                Trial.due("with blanks", t.named(" \n" + NAMES[kind] + " [\n ]".repeat(dims) + "\n "), due);
            }
        }
        String[] none = {"", " ", "[]", "int[", "int]", "int[1]", "int[]]", "int[] int", "in t", "ints", "intt", "Int",
            "none", "a", "5", "int;", "int[];", "in", "int$", "int[$]", "$int", "swimmers", "beasts[]", "flier", "=",
            "int[ ][", "-int", "int[][][][", "truthbyte", "cat dog", "int 5", "class"};
        for (String text : none) {
            Trial.due("named " + text, t.named(text), -1);
            Trial.due("tape behind " + text, t.x.count(1), 0);
        }
        t.compile("a=is b flier;");
        Trial.due("fault", t.x.fault(), 3);
        t.named("zz");
        Trial.due("fault() stays that of compile()", t.x.fault(), 3);
        t.compile("a=cat;a=cast a cat;");
        Trial.due("run", t.runAgain(), 0);
        t.named("int[]");
        Trial.due("run of the same PROGRAM", t.runAgain(), 0);
        t.tape(" ".repeat(3090) + "cat[]");
        Trial.due("a long tape", t.x.named(), 29);
    }

    private static void names() {
        Trial t = new Trial();
        for (int c = -5; c < 90; c++) {
            String due = isClass(c) ? NAMES[c % 20] + "[]".repeat(c / 20) : "";
            Trial.dueText("name of " + c, t.nameOf(c), due);
            for (int i : new int[] {-1, due.length(), due.length() + 1, Integer.MIN_VALUE, Integer.MAX_VALUE}) {
                Trial.due("name(" + c + ", " + i + ")", t.x.name(c, i), -1);
            }
        }
        for (int c : WILD) {
            Trial.due("name(" + c + ", 0)", t.x.name(c, 0), -1);
        }
    }

    private static boolean below(int a, int b) {
        if (a == b) {
            return true;
        }
        int k = a % 20;
        int m = b % 20;
        return a / 20 == b / 20 && k >= 8 && m >= 8
            && (" " + IS[k - 8] + " ").contains(" " + NAMES[m] + " ");
    }

    private static void belowAll() {
        Trial t = new Trial();
        for (int a = -3; a < 85; a++) {
            for (int b = -3; b < 85; b++) {
                boolean due = isClass(a) && isClass(b) && below(a, b);
                Trial.due("below(" + a + ", " + b + ")", t.x.below(a, b), due);
            }
            for (int b : WILD) {
                Trial.due("below(" + a + ", " + b + ")", t.x.below(a, b), false);
                Trial.due("below(" + b + ", " + a + ")", t.x.below(b, a), false);
            }
        }
        for (int c : WILD) {
            Trial.due("below(" + c + ", " + c + ")", t.x.below(c, c), false);
        }
        Trial.due("two KINDS that are no CLASS", t.x.below(15, 15), false);
    }

    private static boolean widens(int from, int to) {
        return from == to || from != 0 && to > 3 && from < to || from == 1 && to == 2;
    }

    private static int stores(int a, int b) {
        if (!isArrays(a) || !isClass(b)) {
            return -1;
        }
        int elements = a - 20;
        if (elements < 8) {
            return b < 8 && widens(b, elements) ? 0 : 6;
        }
        return b < 8 ? 6 : below(b, elements) ? 0 : 4;
    }

    private static void storesAll() {
        Trial t = new Trial();
        for (int a = -3; a < 85; a++) {
            for (int b = -3; b < 85; b++) {
                Trial.due("stores(" + a + ", " + b + ")", t.x.stores(a, b), stores(a, b));
            }
        }
        for (int c : WILD) {
            Trial.due("stores(" + c + ", 4)", t.x.stores(c, 4), -1);
            Trial.due("stores(24, " + c + ")", t.x.stores(24, c), -1);
        }
    }

    private static int copies(int a, int b, int c) {
        if (stores(a, b) != 0 || !isArrays(c)) {
            return -1;
        }
        boolean from = a < 28;
        boolean to = c < 28;
        if (from || to) {
            return a == c ? 0 : 6;
        }
        return below(b, c - 20) ? 0 : 4;
    }

    private static void copiesAll() {
        Trial t = new Trial();
        for (int a = -1; a < 81; a++) {
            for (int b = -1; b < 81; b++) {
                for (int c = -1; c < 81; c++) {
                    Trial.due("copies(" + a + ", " + b + ", " + c + ")", t.x.copies(a, b, c), copies(a, b, c));
                }
            }
        }
        for (int w : WILD) {
            Trial.due("copies(" + w + ", 8, 28)", t.x.copies(w, 8, 28), -1);
            Trial.due("copies(28, " + w + ", 28)", t.x.copies(28, w, 28), -1);
            Trial.due("copies(28, 8, " + w + ")", t.x.copies(28, 8, w), -1);
        }
        for (int what = 0; what <= 9; what++) {
            Trial.due("nothing of it is kept", t.x.count(what), 0);
        }
    }
}
