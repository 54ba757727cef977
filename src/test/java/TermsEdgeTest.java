import java.math.BigDecimal;
import java.math.BigInteger;

/** "Terms" of the document: a test for each sentence of it that names a boundary. */
public final class TermsEdgeTest {
    private static final String[] NAMES =
        ("truth byte short char int long float double beast cat lion dog bird duck bat flier swimmer").split(" ");
    private static final String[] LETTERS = {"", "b", "s", "c", "", "l", "f", "d"};

    public static void main(String[] args) {
        truths();
        wholeNumbers();
        floatsAndDoubles();
        noneAlone();
        whoIsWhat();
        classNumbers();
        below();
        cells();
        whatCellsHold();
        classNames();
        widening();
        nearest();
        Trial.finish("TermsEdgeTest");
    }

    private static void truths() {
        Trial.sentence("truth 0 or 1");
        Trial t = Trial.ran("a=true;b=false;c=new truth[2];c[1]=true;d=same a a;e=same a b;f=is a truth;g=is a int;"
            + "h=equal a a;i=equal a b;j=true;k=same a j;");
        int[] due = {1, 0, -1, 1, 0, 1, 0, 1, 0, 1, 1};
        for (int v = 0; v < due.length; v++) {
            if (v != 2) {
                Trial.due("CLASS of VAR " + v, t.x.look(v, -1, -1, -1, 0), 0);
                Trial.due("VAR " + v, t.value(v, -1, -1, -1), due[v]);
            }
        }
        Trial.due("c[0]", t.number('c', 0), 0);
        Trial.due("c[1]", t.number('c', 1), 1);
        Trial.faultAt("a=!0t;", 1);
        Trial.last("a=new truth[1];a[0]=1;", 6);
        Trial.last("a=new truth[1];a[0]=0b;", 6);
    }

    private static void bounds(int kind, String least, String greatest, String below, String beyond) {
        String letter = LETTERS[kind];
        for (String n : new String[] {least, greatest}) {
            String atom = n + letter;
            long due = Long.parseLong(n);
            String text = "a=" + atom + ";b=new " + NAMES[kind] + "[1];b[0]=a;c=b[0];d=read " + NAMES[kind]
                + " b[0];write " + NAMES[kind] + " b[0]=" + atom + ";e=get b[0];put b[0]=" + atom + ";mark " + atom + ";";
            Trial t = Trial.last(text, 0);
            for (char v : "acde".toCharArray()) {
                Trial.due(v + " behind " + text, t.number(v), due);
                Trial.due("its KIND", t.cls(v), kind);
            }
            Trial.due("b[0]", t.number('b', 0), due);
            Trial.due("marked", t.marked(0), due);
        }
        Trial.faultAt("a=-!" + below + letter + ";", 3);
        Trial.faultAt("a=!" + beyond + letter + ";", 3);
    }

    private static void wholeNumbers() {
        Trial.sentence("whole ones of 8, 16, 32, 64 bits with a sign, char of 16 without");
        bounds(1, "-128", "127", "129", "128");
        bounds(2, "-32768", "32767", "32769", "32768");
        bounds(3, "0", "65535", "1", "65536");
        bounds(4, "-2147483648", "2147483647", "2147483649", "2147483648");
        bounds(5, "-9223372036854775808", "9223372036854775807", "9223372036854775809", "9223372036854775808");
        Trial.is("a=-0c;", 'a', 0);
        Trial.is("a=-1b;", 'a', -1);
        Trial.is("a=65535c;b=new int[1];b[0]=a;x=b[0];", 'x', 65535);
        Trial.is("a=-1s;b=new long[1];b[0]=a;x=b[0];", 'x', -1);
    }

    /** What IEEE 754 has for a whole number, worked out in whole numbers: the nearest with so many bits. */
    private static long rounded(BigInteger n, int bits) {
        int away = n.abs().bitLength() - bits;
        if (away > 0) {
            BigInteger unit = BigInteger.ONE.shiftLeft(away);
            BigInteger[] parts = n.abs().divideAndRemainder(unit);
            int half = parts[1].shiftLeft(1).compareTo(unit);
            boolean up = half > 0 || half == 0 && parts[0].testBit(0);
            BigInteger near = parts[0].add(up ? BigInteger.ONE : BigInteger.ZERO).multiply(unit);
            n = n.signum() < 0 ? near.negate() : near;
        }
        return n.bitLength() > 63 ? Long.MAX_VALUE : n.longValue();
    }

    private static void floatsAndDoubles() {
        Trial.sentence("floats and doubles as IEEE 754 has them");
        String[] numbers = {"0", "1", "16777215", "16777216", "16777217", "16777218", "16777219", "33554431",
            "9007199254740991", "9007199254740992", "9007199254740993", "9007199254740995", "9223372036854775807",
            "9223372036854775295", "9223372036854775296", "9223371761976868863", "9223371761976868864",
            "9223372036854774784", "9223371487098961920", "4611686018427387905"};
        for (String n : numbers) {
            for (String sign : new String[] {"", "-"}) {
                BigInteger whole = new BigInteger(sign + n);
                Trial.is("x=" + sign + n + "f;", 'x', rounded(whole, 24));
                Trial.is("x=" + sign + n + "d;", 'x', rounded(whole, 53));
                // The rule above is the one that Java's own numbers keep to.
                Trial.due("float " + n, rounded(whole, 24), new BigDecimal(whole).floatValue() >= 0x1p63f
                    ? Long.MAX_VALUE : (long) new BigDecimal(whole).floatValue());
            }
        }
        Trial.is("x=-9223372036854775808f;", 'x', Long.MIN_VALUE);
        Trial.is("x=-9223372036854775808d;", 'x', Long.MIN_VALUE);
        Trial.is("a=-0f;b=0f;x=same a b;", 'x', 1);
        Trial.is("a=-0d;x=hash a;", 'x', 0);
        Trial.is("a=9223372036854775807f;b=9223372036854775806f;x=same a b;", 'x', 1);
    }

    private static void noneAlone() {
        Trial.sentence("15 flier, 16 swimmer, of which alone there are none");
        ArrayTrainer x = new ArrayTrainer();
        for (int kind = 15; kind <= 16; kind++) {
            String name = NAMES[kind];
            Trial.faultAt("a=!" + name + ";", 2);
            Trial.faultAt("mark !" + name + ";", 2);
            Trial.faultAt("a=is b !" + name + ";", 3);
            Trial.faultAt("a=cast b !" + name + ";", 3);
            Trial.fine("a=is b " + name + "[];", 1);
            Trial.due("named " + name, new Trial().named(name), -1);
            Trial.due("named " + name + "[]", new Trial().named(name + "[]"), 20 + kind);
            Trial.due("name(" + kind + ", 0)", x.name(kind, 0), -1);
            Trial.due("below(" + kind + ", " + kind + ")", x.below(kind, kind), false);
            Trial.due("below(13, " + kind + ")", x.below(13, kind), false);
            Trial.due("stores(" + (20 + kind) + ", " + kind + ")", x.stores(20 + kind, kind), -1);
            Trial.due("stores(" + (20 + kind) + ", 13)", x.stores(20 + kind, 13), 0);
        }
    }

    private static void whoIsWhat() {
        Trial.sentence("A cat, a dog, a bird, a bat is a beast, a lion a cat, a duck a bird; birds and bats are fliers, "
            + "dogs and ducks swimmers (and what is of a KIND is of all that this is)");
        String[] is = {"beast", "cat beast", "lion cat beast", "dog beast swimmer", "bird beast flier",
            "duck bird beast flier swimmer", "bat beast flier"};
        ArrayTrainer x = new ArrayTrainer();
        for (int kind = 8; kind <= 14; kind++) {
            for (int other = 8; other <= 16; other++) {
                boolean due = (" " + is[kind - 8] + " ").contains(" " + NAMES[other] + " ");
                String one = NAMES[kind];
                String more = NAMES[other];
                Trial.due("below arrays " + kind + " " + other, x.below(20 + kind, 20 + other), due);
                Trial.last("a=new " + more + "[1];a[0]=" + one + ";", due ? 0 : 4);
                Trial.last("a=new " + one + "[1];b=cast a " + more + "[];", due ? 0 : 5);
                Trial.is("a=new " + one + "[1];x=is a " + more + "[];", 'x', due ? 1 : 0);
                if (other < 15) {
                    Trial.due("below " + kind + " " + other, x.below(kind, other), due);
                    Trial.last("a=" + one + ";b=cast a " + more + ";", due ? 0 : 5);
                    Trial.is("a=" + one + ";x=is a " + more + ";", 'x', due ? 1 : 0);
                }
            }
        }
        for (int kind = 15; kind <= 16; kind++) {
            for (int other = 8; other <= 16; other++) {
                Trial.due("below " + (20 + kind) + " " + (20 + other), x.below(20 + kind, 20 + other), kind == other);
            }
        }
    }

    private static void classNumbers() {
        Trial.sentence("CLASSES by number: a KIND and 20 times DIMS, 0 to 3 (0 with 15 and 16 is none)");
        int[] are = {0, 14, 20, 34, 35, 36, 40, 55, 56, 60, 75, 76};
        int[] not = {-1, -20, -4, 15, 16, 17, 18, 19, 37, 38, 39, 57, 59, 77, 79, 80, 84, 96, 100,
            Integer.MIN_VALUE, Integer.MAX_VALUE};
        ArrayTrainer x = new ArrayTrainer();
        for (int c : are) {
            Trial.due("below(" + c + ", " + c + ")", x.below(c, c), true);
            Trial.due("name(" + c + ", 0)", x.name(c, 0), NAMES[c % 20].charAt(0));
            Trial.due("stores(28, " + c + ")", x.stores(28, c), c < 8 ? 6 : c < 15 ? 0 : 4);
            Trial.due("stores(" + c + ", 0)", x.stores(c, 0), c < 20 ? -1 : c == 20 ? 0 : 6);
        }
        for (int c : not) {
            Trial.due("below(" + c + ", " + c + ")", x.below(c, c), false);
            Trial.due("name(" + c + ", 0)", x.name(c, 0), -1);
            Trial.due("stores(28, " + c + ")", x.stores(28, c), -1);
            Trial.due("stores(" + c + ", 0)", x.stores(c, 0), -1);
            Trial.due("copies(28, 8, " + c + ")", x.copies(28, 8, c), -1);
        }
        Trial t = Trial.ran("a=new swimmer[1][1][];b=new truth[1][1][1];c=bat;d=true;");
        Trial.due("CLASS of a", t.cls('a'), 76);
        Trial.due("CLASS of a[0]", t.cls('a', 0), 56);
        Trial.due("CLASS of b", t.cls('b'), 60);
        Trial.due("CLASS of b[0][0]", t.cls('b', 0, 0), 20);
        Trial.due("CLASS of b[0][0][0]", t.cls('b', 0, 0, 0), 0);
        Trial.due("CLASS of c", t.cls('c'), 14);
        Trial.due("CLASS of d", t.cls('d'), 0);
    }

    private static void below() {
        Trial.sentence("A CLASS is BELOW another one, if they are the same, or have the same DIMS and KINDS from 8 on of "
            + "which the first is the other");
        ArrayTrainer x = new ArrayTrainer();
        for (int dims = 0; dims <= 3; dims++) {
            int d = 20 * dims;
            Trial.due("the same NUMBERS", x.below(d + 7, d + 7), true);
            Trial.due("a NUMBER that widens", x.below(d + 1, d + 4), false);
            Trial.due("KIND 7 and 8", x.below(d + 7, d + 8), false);
            Trial.due("KIND 8 and 7", x.below(d + 8, d + 7), false);
            Trial.due("KIND 8 and 8", x.below(d + 8, d + 8), true);
            Trial.due("the first is the other", x.below(d + 9, d + 8), true);
            Trial.due("the other is the first", x.below(d + 8, d + 9), false);
            for (int other = 0; other <= 3; other++) {
                Trial.due("DIMS " + dims + " and " + other, x.below(d + 10, 20 * other + 9), dims == other);
                Trial.due("beasts of DIMS " + dims + " and " + other, x.below(d + 8, 20 * other + 8), dims == other);
            }
        }
    }

    private static void cells() {
        Trial.sentence("An ARRAY has CELLS 0 to its length - 1");
        for (int length : new int[] {0, 1, 2, 7, 500}) {
            String a = "a=new int[" + length + "];";
            Trial.last(a + "x=a[-1];", 2);
            Trial.last(a + "x=a[" + length + "];", 2);
            Trial.last(a + "a[" + length + "]=5;", 2);
            Trial.last(a + "x=a[0];", length == 0 ? 2 : 0);
            Trial t = Trial.ran(a);
            Trial.due("length", t.length('a'), length);
            Trial.due("CELL 0", t.cls('a', 0), length == 0 ? -2 : 4);
            Trial.due("CELL " + length, t.cls('a', length), -2);
            if (length > 0) {
                Trial.is(a + "a[" + (length - 1) + "]=6;x=a[" + (length - 1) + "];", 'x', 6);
                Trial.due("CELL " + (length - 1), t.cls('a', length - 1), 4);
            }
        }
    }

    private static void whatCellsHold() {
        Trial.sentence("of an ELEMENT KIND below 8 (DIMS 1) NUMBERS of that KIND, else CREATURES or ARRAYS of CLASSES "
            + "BELOW that of its ELEMENTS, or none");
        for (int kind = 0; kind < 17; kind++) {
            Trial t = Trial.ran("a=new " + NAMES[kind] + "[1];b=new " + NAMES[kind] + "[1][];c=new " + NAMES[kind]
                + "[1][1][];");
            Trial.due("a[0] of KIND " + kind, t.cls('a', 0), kind < 8 ? kind : -1);
            Trial.due("its NUMBER", t.number('a', 0), kind < 8 ? 0 : Trial.NO_SUCH);
            Trial.due("b[0] of KIND " + kind, t.cls('b', 0), -1);
            Trial.due("c[0] of KIND " + kind, t.cls('c', 0), 40 + kind);
            Trial.due("c[0][0] of KIND " + kind, t.cls('c', 0, 0), -1);
            Trial.last("a=new " + NAMES[kind] + "[1];a[0]=none;", kind < 8 ? 6 : 0);
            Trial.last("a=new " + NAMES[kind] + "[1][1];a[0]=none;", 0);
        }
        Trial t = Trial.last("a=new beast[1][];b=new lion[2];a[0]=b;c=new flier[1];c[0]=duck;", 0);
        Trial.due("an ARRAY of a CLASS BELOW keeps its own", t.cls('a', 0), 30);
        Trial.due("a CREATURE of a KIND BELOW keeps its own", t.cls('c', 0), 13);
        Trial.is("a=new double[1];a[0]=5b;x=a[0];y=class x;", 'y', 7);
    }

    private static void classNames() {
        Trial.sentence("A CLASS name: that of its KIND, and [] for each DIM");
        Trial t = new Trial();
        for (int kind = 0; kind < 17; kind++) {
            for (int dims = kind < 15 ? 0 : 1; dims <= 3; dims++) {
                String name = NAMES[kind] + "[]".repeat(dims);
                Trial.dueText("name of " + (kind + 20 * dims), t.nameOf(kind + 20 * dims), name);
                Trial.due("named " + name, t.named(name), kind + 20 * dims);
            }
            Trial.due("four DIMS", t.named(NAMES[kind] + "[][][][]"), -1);
        }
    }

    private static void widening() {
        Trial.sentence("A NUMBER WIDENS to its own KIND; a byte to short, int, long, float, double, a short and a char to "
            + "int, long, float, double, an int to long, float, double, a long to float, double, a float to double");
        String[] to = {"truth", "byte short int long float double", "short int long float double",
            "char int long float double", "int long float double", "long float double", "float double", "double"};
        ArrayTrainer x = new ArrayTrainer();
        for (int from = 0; from < 8; from++) {
            for (int into = 0; into < 8; into++) {
                boolean due = (" " + to[from] + " ").contains(" " + NAMES[into] + " ");
                String one = from == 0 ? "true" : 1 + LETTERS[from];
                String a = "a=new " + NAMES[into] + "[1];";
                Trial.last(a + "a[0]=" + one + ";", due ? 0 : 6);
                Trial.last(a + "b=" + one + ";a[0]=b;", due ? 0 : 6);
                Trial.due("stores", x.stores(20 + into, from), due ? 0 : 6);
            }
        }
    }

    /** From one NUMBER to floats and doubles, by each way that there is. */
    private static void toFloats(String atom, String kind, BigInteger n) {
        for (String to : new String[] {"float", "double"}) {
            long due = rounded(n, to.equals("float") ? 24 : 53);
            String a = "a=new " + to + "[1];";
            Trial.is(a + "a[0]=" + atom + ";x=a[0];", 'x', due);
            Trial.is(a + "put a[0]=" + atom + ";x=a[0];", 'x', due);
            Trial.is(a + "fill a with " + atom + ";x=a[0];", 'x', due);
            Trial.is(a + "write " + kind + " a[0]=" + atom + ";x=a[0];", 'x', due);
            Trial.is("b=new " + kind + "[1];b[0]=" + atom + ";x=read " + to + " b[0];", 'x', due);
        }
    }

    private static void nearest() {
        Trial.sentence("(floats, doubles: the nearest, of two the even one)");
        for (String sign : new String[] {"", "-"}) {
            for (String n : new String[] {"16777217", "16777219", "16777218", "33554434", "33554435", "33554437",
                    "2147483583", "2147483584", "2147483585", "2147483647"}) {
                toFloats(sign + n, "int", new BigInteger(sign + n));
                toFloats(sign + n + "l", "long", new BigInteger(sign + n));
            }
            for (String n : new String[] {"9007199254740993", "9007199254740994", "9007199254740995", "18014398509481986",
                    "18014398509481990", "9007199791611904", "9007199791611905", "9007199254740992",
                    "9223372036854775807", "9223372036854775295", "9223372036854775296", "9223371761976868863",
                    "9223371761976868864"}) {
                toFloats(sign + n + "l", "long", new BigInteger(sign + n));
            }
        }
        // A double that was a float stays what the float was, and is not rounded from what the float came from.
        Trial.is("a=new double[1];a[0]=16777217f;x=a[0];", 'x', 16777216);
        Trial.is("b=16777217f;a=new double[1];a[0]=b;c=16777217d;d=a[0];x=same c d;", 'x', 0);
        // Rounded once from the long: by way of a double it would be the float below.
        Trial.is("a=new float[1];a[0]=9007199791611905l;x=a[0];", 'x', 9007200328482816L);
    }
}
