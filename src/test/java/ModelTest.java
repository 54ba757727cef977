import java.lang.reflect.Array;
import java.util.ArrayList;
import java.util.List;
import java.util.Random;

/**
 * Promises 4, 6, 7 and 9 to 15 and 21 once more: programs by chance (always the same ones), each STEP done with
 * Java's own arrays and refused where Java itself refuses it, held against what the trainer answers.
 */
public final class ModelTest {
    static class Beast { }
    static class Cat extends Beast { }
    static class Lion extends Cat { }
    interface Flier { }
    interface Swimmer { }
    static class Dog extends Beast implements Swimmer { }
    static class Bird extends Beast implements Flier { }
    static class Duck extends Bird implements Swimmer { }
    static class Bat extends Beast implements Flier { }

    private static final Class<?>[] KINDS = {boolean.class, byte.class, short.class, char.class, int.class,
        long.class, float.class, double.class, Beast.class, Cat.class, Lion.class, Dog.class, Bird.class,
        Duck.class, Bat.class, Flier.class, Swimmer.class};
    private static final Class<?>[] BOXES = {Boolean.class, Byte.class, Short.class, Character.class,
        Integer.class, Long.class, Float.class, Double.class};
    private static final String[] NAMES =
        ("truth byte short char int long float double beast cat lion dog bird duck bat flier swimmer").split(" ");
    private static final String[] REFUSALS = "none missing index size store cast unlike large".split(" ");
    private static final String LETTERS = " bsc lfd";

    private static final class Large extends RuntimeException { }

    private final Random chance;
    private final Object[] vars = new Object[26];
    private final List<Object> marks = new ArrayList<>();
    private int arrays;
    private int cells;
    private int looked;

    // The STEP that is being made.
    private int act;
    private int target;
    private int first;
    private int second;
    private int cls;
    private final List<Object> indexes = new ArrayList<>();
    private String atomText;
    private Object atom;
    private int atomVar;

    private ModelTest(long seed) {
        chance = new Random(seed);
    }

    public static void main(String[] args) {
        int[] seen = new int[8 * 22];
        for (int seed = 0; seed < 6000; seed++) {
            new ModelTest(seed).program(seen, seed);
        }
        int[][] must = {{1, 0}, {2, 0}, {2, 1}, {2, 2}, {2, 6}, {3, 0}, {3, 1}, {3, 2}, {3, 4}, {3, 6}, {4, 0},
            {4, 1}, {4, 2}, {4, 6}, {5, 0}, {5, 1}, {5, 2}, {5, 6}, {6, 0}, {6, 1}, {6, 2}, {6, 6}, {7, 0}, {7, 1},
            {7, 2}, {7, 6}, {8, 0}, {8, 3}, {8, 7}, {9, 0}, {9, 1}, {9, 6}, {9, 7}, {10, 0}, {10, 5}, {10, 6},
            {11, 0}, {12, 0}, {13, 0}, {13, 1}, {13, 6}, {14, 0}, {15, 0}, {15, 7}, {16, 0}, {16, 7}, {17, 0},
            {17, 1}, {17, 2}, {17, 4}, {17, 6}, {18, 0}, {18, 1}, {18, 4}, {18, 6}, {19, 0}, {19, 1}, {19, 2},
            {19, 6}, {20, 0}, {20, 1}, {20, 6}, {21, 0}};
        for (int[] m : must) {
            Trial.due("act " + m[0] + " with refusal " + m[1] + " was come to", seen[m[0] * 8 + m[1]] > 0, true);
        }
        Trial.finish("ModelTest");
    }

    private void program(int[] seen, int seed) {
        StringBuilder text = new StringBuilder();
        StringBuilder outcomes = new StringBuilder();
        List<int[]> steps = new ArrayList<>();
        int takes = 0;
        int ended = 0;
        int guesses = 0;
        int right = 0;
        int taken = 0;
        int most = 1 + chance.nextInt(seed % 10 < 2 ? 100 : 60);
        for (int k = 0; k < most && ended == 0; k++) {
            String body = seed % 10 < 2 && k < 6 ? wide(k) : choose(seed % 10 == 1);
            int refusal = perform();
            boolean partly = act == 17 && refusal == 4;
            if (refusal != 0 && !partly && chance.nextInt(10) < 6) {
                continue;
            }
            seen[act * 8 + refusal]++;
            int guess = chance.nextInt(3) == 0 ? (chance.nextBoolean() ? refusal : chance.nextInt(8)) : -1;
            int take = 0;
            if (takes < 8 && (refusal != 0 || chance.nextInt(20) == 0)) {
                take = refusal != 0 && chance.nextInt(12) > 0 ? refusal : 1 + chance.nextInt(7);
                takes++;
            }
            int place = text.length();
            text.append(guess < 0 ? "" : "guess " + REFUSALS[guess] + " ");
            text.append(take == 0 ? "" : "take " + REFUSALS[take] + " ");
            text.append(body);
            steps.add(new int[] {act, guess, take, place});
            outcomes.append(refusal);
            guesses += guess < 0 ? 0 : 1;
            right += guess == refusal ? 1 : 0;
            if (refusal != 0) {
                if (take == refusal) {
                    taken++;
                } else {
                    ended = steps.size();
                }
            }
        }
        if (steps.isEmpty() || text.length() > 2950) {
            return;
        }
        int came = steps.size();
        if (ended != 0 && came < 100) {
            steps.add(new int[] {1, -1, 0, text.length()});
            text.append("a = 5;");
            outcomes.append('-');
        }
        hold(seed + ": " + text, text.toString(), steps, outcomes.toString(), ended);
        int[] due = {steps.size(), 0, -9, marks.size(), arrays, cells, came, guesses, right, taken};
        for (int what = 0; what < due.length; what++) {
            if (what != 2) {
                Trial.due(seed + ": count(" + what + ") of " + text, trial.x.count(what), due[what]);
            }
        }
    }

    private Trial trial;

    private void hold(String id, String text, List<int[]> steps, String outcomes, int ended) {
        trial = new Trial();
        Trial t = trial;
        Trial.due(id + " compile", t.compile(text), steps.size());
        for (int k = 0; k < steps.size(); k++) {
            for (int what = 0; what < 4; what++) {
                Trial.due(id + " step(" + k + ", " + what + ")", t.step(k, what), steps.get(k)[what]);
            }
            int end = k + 1 < steps.size() ? steps.get(k + 1)[3] : text.length();
            Trial.dueText(id + " spell(" + k + ")", t.spelled(k), text.substring(steps.get(k)[3], end));
        }
        for (int n = 0; n < 2; n++) {
            Trial.due(id + " run", t.runAgain(), ended);
            Trial.dueText(id + " outcomes", t.outcomes(), outcomes);
        }
        for (int v = 0; v < 26; v++) {
            holdValue(id + " VAR " + v, vars[v], v, -1, -1, -1);
        }
        holdSameness(id);
        for (int k = 0; k < 60; k++) {
            Object m = k < Math.min(50, marks.size()) ? marks.get(k) : null;
            Trial.due(id + " mark " + k, t.x.mark(k, 0), classOf(m));
            Trial.due(id + " marked " + k, t.marked(k), isNumber(m) ? whole(m) : Trial.NO_SUCH);
        }
    }

    private void holdValue(String id, Object o, int v, int i, int j, int k) {
        Trial.due(id + " class", trial.x.look(v, i, j, k, 0), classOf(o));
        Trial.due(id + " length", trial.x.look(v, i, j, k, 1), isArray(o) ? Array.getLength(o) : -1);
        Trial.due(id + " value", trial.value(v, i, j, k), isNumber(o) ? whole(o) : Trial.NO_SUCH);
        if (!isArray(o) || k != -1) {
            return;
        }
        int n = Array.getLength(o);
        for (int c = -3; c <= n; c++) {
            if (c == -1) {
                continue;
            }
            int a = i == -1 ? c : i;
            int b = i == -1 ? -1 : j == -1 ? c : j;
            int d = i != -1 && j != -1 ? c : -1;
            if (c < 0 || c == n) {
                Trial.due(id + " no path " + c, trial.x.look(v, a, b, d, 0), -2);
            } else if (c < 6 || c > n - 3) {
                holdValue(id + "[" + c + "]", Array.get(o, c), v, a, b, d);
            }
        }
    }

    private void holdSameness(String id) {
        for (int n = 0; n < 60; n++) {
            int v = chance.nextInt(8);
            int w = chance.nextInt(8);
            int i = chance.nextInt(4) - 1;
            int j = chance.nextInt(4) - 1;
            Object a = at(vars[v], i);
            Object b = at(vars[w], j);
            boolean due = a != null && a == b && !isNumber(a);
            Trial.due(id + " same(" + v + ", " + i + ", " + w + ", " + j + ")", trial.x.same(v, i, w, j), due);
        }
    }

    private static Object at(Object o, int i) {
        if (i == -1) {
            return o;
        }
        return isArray(o) && i < Array.getLength(o) && !o.getClass().getComponentType().isPrimitive()
            ? Array.get(o, i) : null;
    }

    private static boolean isArray(Object o) {
        return o != null && o.getClass().isArray();
    }

    private static boolean isNumber(Object o) {
        return o instanceof Number || o instanceof Boolean || o instanceof Character;
    }

    private static int classOf(Object o) {
        if (o == null) {
            return -1;
        }
        for (int k = 0; k < 8; k++) {
            if (BOXES[k] == o.getClass()) {
                return k;
            }
        }
        Class<?> c = o.getClass();
        int dims = 0;
        while (c.isArray()) {
            c = c.getComponentType();
            dims++;
        }
        for (int k = 0; k < 17; k++) {
            if (KINDS[k] == c) {
                return 20 * dims + k;
            }
        }
        throw new IllegalStateException();
    }

    private static long whole(Object o) {
        if (o instanceof Boolean) {
            return (Boolean) o ? 1 : 0;
        }
        return o instanceof Character ? (Character) o : ((Number) o).longValue();
    }

    private static Class<?> javaClass(int cls) {
        Class<?> c = KINDS[cls % 20];
        for (int d = 0; d < cls / 20; d++) {
            c = Array.newInstance(c, 0).getClass();
        }
        return c;
    }

    private int var() {
        return chance.nextInt(10) < 9 ? chance.nextInt(8) : chance.nextInt(26);
    }

    private int arrayVar() {
        for (int n = 0; n < 6; n++) {
            int v = var();
            if (isArray(vars[v])) {
                return v;
            }
        }
        return var();
    }

    private static String letter(int v) {
        return String.valueOf((char) ('a' + v));
    }

    private String index(int about) {
        if (chance.nextInt(5) == 0) {
            int v = 8 + chance.nextInt(3);
            v = chance.nextInt(4) == 0 ? var() : v;
            indexes.add("var" + v);
            return letter(v);
        }
        int n = chance.nextInt(25) == 0 ? -1 - chance.nextInt(2) : chance.nextInt(Math.max(1, about));
        n = chance.nextInt(25) == 0 ? about : n;
        n = chance.nextInt(200) == 0 ? Integer.MAX_VALUE : n;
        indexes.add(n);
        return Integer.toString(n);
    }

    /** A PLACE that mostly is there. */
    private String place() {
        first = arrayVar();
        StringBuilder s = new StringBuilder(letter(first));
        Object hand = vars[first];
        int depth = 1;
        if (isArray(hand)) {
            depth = 1 + chance.nextInt(Math.min(3, classOf(hand) / 20));
        }
        depth = chance.nextInt(15) == 0 ? 1 + chance.nextInt(3) : depth;
        for (int d = 0; d < depth; d++) {
            int length = isArray(hand) ? Array.getLength(hand) : 2;
            s.append('[').append(index(length)).append(']');
            Object last = indexes.get(indexes.size() - 1);
            boolean there = last instanceof Integer && (Integer) last >= 0 && (Integer) last < length;
            hand = isArray(hand) && there ? Array.get(hand, (Integer) last) : null;
        }
        return s.toString();
    }

    private Object box(int kind, long n) {
        switch (kind) {
            case 0: return n != 0;
            case 1: return (byte) n;
            case 2: return (short) n;
            case 3: return (char) n;
            case 4: return (int) n;
            case 5: return n;
            case 6: return (float) n;
            default: return (double) n;
        }
    }

    private long someNumber(int kind) {
        long[] greatest = {1, 127, 32767, 65535, Integer.MAX_VALUE, Long.MAX_VALUE, Long.MAX_VALUE, Long.MAX_VALUE};
        if (kind == 0) {
            return chance.nextInt(2);
        }
        switch (chance.nextInt(8)) {
            case 0: return greatest[kind];
            case 1: return kind == 3 ? 0 : -greatest[kind] - 1;
            case 2: return kind < 4 ? 1 : (1L << 24) + chance.nextInt(9);
            case 3: return kind < 5 ? 2 : (1L << 53) + chance.nextInt(9);
            case 4: return kind < 5 ? 3 : chance.nextLong();
            default: return chance.nextInt(4);
        }
    }

    private void number(int kind) {
        long n = someNumber(kind);
        atom = box(kind, n);
        if (kind == 0) {
            atomText = n == 1 ? "true" : "false";
        } else {
            atomText = n + (kind == 4 ? "" : String.valueOf(LETTERS.charAt(kind)));
        }
    }

    private void atom(int kind) {
        atomVar = -1;
        int n = chance.nextInt(10);
        if (n == 0) {
            atom = null;
            atomText = "none";
        } else if (n < 4) {
            atomVar = var();
            atom = vars[atomVar];
            atomText = letter(atomVar);
        } else if (n < 6 && kind < 0 || n > 5 && kind >= 8) {
            int creature = kind >= 8 && kind < 15 && chance.nextInt(3) > 0 ? kind : 8 + chance.nextInt(7);
            atom = creature(creature);
            atomText = NAMES[creature];
        } else {
            number(kind >= 0 && kind < 8 && chance.nextInt(3) > 0 ? kind : chance.nextInt(8));
        }
    }

    private static Object creature(int kind) {
        switch (kind) {
            case 8: return new Beast();
            case 9: return new Cat();
            case 10: return new Lion();
            case 11: return new Dog();
            case 12: return new Bird();
            case 13: return new Duck();
            default: return new Bat();
        }
    }

    private int kindNear(Object o) {
        return isArray(o) && chance.nextInt(4) > 0 ? classOf(o) % 20 : -1;
    }

    private String className() {
        int dims = chance.nextInt(4);
        int kind = chance.nextInt(dims == 0 ? 15 : 17);
        Object o = vars[first];
        if (o != null && chance.nextInt(3) > 0) {
            dims = classOf(o) / 20;
            kind = chance.nextBoolean() ? classOf(o) % 20 : 8 + chance.nextInt(dims == 0 ? 7 : 9);
        }
        cls = kind + 20 * dims;
        return NAMES[kind] + "[]".repeat(dims);
    }

    private String lengths() {
        int kind = chance.nextInt(3) == 0 ? chance.nextInt(8) : 8 + chance.nextInt(9);
        int told = 1 + chance.nextInt(3);
        int blank = chance.nextInt(4 - told);
        StringBuilder s = new StringBuilder(NAMES[kind]);
        int about = chance.nextInt(10) == 0 ? 300 : chance.nextInt(10) == 0 ? 60 : 4;
        for (int d = 0; d < told; d++) {
            s.append('[').append(index(about)).append(']');
        }
        s.append("[]".repeat(blank));
        cls = kind + 20 * (told + blank);
        return s.toString();
    }

    /** A beginning that makes ARRAYS so wide that hash and equal may look at too much. */
    private String wide(int k) {
        indexes.clear();
        target = k / 3 * 2 + k % 3;
        if (k % 3 == 2) {
            act = 18;
            first = k / 3 * 2;
            atomVar = first + 1;
            atom = vars[atomVar];
            return "fill " + letter(first) + " with " + letter(atomVar) + ";";
        }
        act = 8;
        cls = k % 3 == 0 ? 44 : 24;
        indexes.add(k % 3 == 0 ? 37 + chance.nextInt(6) : 480 + chance.nextInt(21));
        return letter(target) + " = new int[" + indexes.get(0) + (k % 3 == 0 ? "][];" : "];");
    }

    /** A STEP's text as spell() has it; what it is stands in the fields. */
    private String choose(boolean manyClones) {
        indexes.clear();
        act = manyClones && chance.nextInt(3) == 0 ? 9 : 1 + chance.nextInt(21);
        if (chance.nextInt(4) == 0) {
            act = chance.nextBoolean() ? 8 : 3;
        }
        target = act == 1 && chance.nextInt(3) == 0 ? 8 + chance.nextInt(3) : var();
        String to = letter(target) + " = ";
        String p;
        switch (act) {
            case 1:
                atom(target >= 8 ? 1 + chance.nextInt(4) : -1);
                return to + atomText + ";";
            case 2: return to + place() + ";";
            case 3: p = place(); atom(kindNear(vars[first])); return p + " = " + atomText + ";";
            case 4:
                p = place();
                cls = Math.max(0, Math.min(7, kindNear(vars[first]) + chance.nextInt(3)));
                return to + "read " + NAMES[cls] + " " + p + ";";
            case 5:
                p = place();
                cls = Math.max(0, Math.min(7, kindNear(vars[first]) - chance.nextInt(3)));
                atom(cls);
                return "write " + NAMES[cls] + " " + p + " = " + atomText + ";";
            case 6: return to + "get " + place() + ";";
            case 7: p = place(); atom(kindNear(vars[first])); return "put " + p + " = " + atomText + ";";
            case 8: return to + "new " + lengths() + ";";
            case 9: first = arrayVar(); return to + "clone " + letter(first) + ";";
            case 10: first = var(); return to + "cast " + letter(first) + " " + className() + ";";
            case 11: first = var(); return to + "is " + letter(first) + " " + className() + ";";
            case 12: return to + "same " + two() + ";";
            case 13: first = arrayVar(); return to + "size " + letter(first) + ";";
            case 14: first = var(); return to + "class " + letter(first) + ";";
            case 15: first = arrayVar(); return to + "hash " + letter(first) + ";";
            case 16: return to + "equal " + two() + ";";
            case 17:
                first = arrayVar();
                second = chance.nextInt(4) == 0 ? first : arrayVar();
                return "copy " + letter(first) + "[" + index(2) + "] to " + letter(second) + "[" + index(2)
                    + "] for " + index(4) + ";";
            case 18:
                first = arrayVar();
                atom(kindNear(vars[first]));
                return "fill " + letter(first) + " with " + atomText + ";";
            case 19: first = arrayVar(); return "swap " + letter(first) + "[" + index(3) + "][" + index(3) + "];";
            case 20: first = arrayVar(); return "turn " + letter(first) + ";";
            default: atom(-1); return "mark " + atomText + ";";
        }
    }

    private String two() {
        first = arrayVar();
        second = chance.nextInt(3) == 0 ? first : arrayVar();
        return letter(first) + " " + letter(second);
    }

    private int perform() {
        try {
            doIt();
            return 0;
        } catch (NullPointerException e) {
            return 1;
        } catch (IndexOutOfBoundsException e) {
            return 2;
        } catch (NegativeArraySizeException e) {
            return 3;
        } catch (ArrayStoreException e) {
            return 4;
        } catch (ClassCastException e) {
            return 5;
        } catch (IllegalArgumentException e) {
            return 6;
        } catch (Large e) {
            return 7;
        }
    }

    private int[] readIndexes() {
        int[] at = new int[indexes.size()];
        for (int n = 0; n < at.length; n++) {
            Object o = indexes.get(n);
            if (o instanceof Integer) {
                at[n] = (Integer) o;
                continue;
            }
            Object v = vars[Integer.parseInt(((String) o).substring(3))];
            if (v == null) {
                throw new NullPointerException();
            }
            if (v instanceof Character) {
                at[n] = (Character) v;
            } else if (v instanceof Byte || v instanceof Short || v instanceof Integer) {
                at[n] = ((Number) v).intValue();
            } else {
                throw new IllegalArgumentException();
            }
        }
        return at;
    }

    private static Object needArray(Object o) {
        if (o == null) {
            throw new NullPointerException();
        }
        if (!isArray(o)) {
            throw new IllegalArgumentException();
        }
        return o;
    }

    private Object reach(int[] at) {
        Object hand = vars[first];
        for (int n = 0; n + 1 < at.length; n++) {
            hand = Array.get(needArray(hand), at[n]);
        }
        return needArray(hand);
    }

    private static void plainWrite(Object array, int i, Object o) {
        if (array.getClass().getComponentType().isPrimitive()) {
            Array.get(array, i);
            Array.set(array, i, o);
        } else {
            Object[] row = (Object[]) array;
            Object there = row[i];
            if (isNumber(o)) {
                throw new IllegalArgumentException();
            }
            row[i] = o;
        }
    }

    private void doIt() {
        int[] at = readIndexes();
        Object v = vars[first];
        Object w = vars[second];
        switch (act) {
            case 1: vars[target] = atom; break;
            case 2: case 6: vars[target] = Array.get(reach(at), at[at.length - 1]); break;
            case 3: plainWrite(reach(at), at[at.length - 1], atom); break;
            case 4: vars[target] = readAs(reach(at), at[at.length - 1]); break;
            case 5:
                if (classOf(atom) != cls) {
                    throw new IllegalArgumentException();
                }
                writeAs(reach(at), at[at.length - 1]);
                break;
            case 7:
                Object row = reach(at);
                // Here the document has another order than Java, which looks at the index first.
                if (row.getClass().getComponentType().isPrimitive() && !isNumber(atom)) {
                    throw new IllegalArgumentException();
                }
                Array.set(row, at[at.length - 1], atom);
                break;
            case 8: make(at); break;
            case 9: vars[target] = cloned(needArray(v)); break;
            case 10:
                if (isNumber(v) && classOf(v) != cls) {
                    throw new IllegalArgumentException();
                }
                vars[target] = isNumber(v) ? v : javaClass(cls).cast(v);
                break;
            case 11: vars[target] = isNumber(v) ? classOf(v) == cls : javaClass(cls).isInstance(v); break;
            case 12: vars[target] = isNumber(v) ? v.equals(w) : v == w; break;
            case 13: vars[target] = Array.getLength(needArray(v)); break;
            case 14: vars[target] = classOf(v); break;
            case 15: looked = 0; vars[target] = hash(v); break;
            case 16: looked = 0; vars[target] = equal(v, w); break;
            case 17: copy(v, w, at); break;
            case 18:
                for (int i = 0; i < Array.getLength(needArray(v)); i++) {
                    plainWrite(v, i, atom);
                }
                break;
            case 19:
                Object one = Array.get(needArray(v), at[0]);
                Object two = Array.get(v, at[1]);
                Array.set(v, at[0], two);
                Array.set(v, at[1], one);
                break;
            case 20: turn(needArray(v)); break;
            default: marks.add(atom); break;
        }
    }

    private Object readAs(Object array, int i) {
        switch (cls) {
            case 0: return Array.getBoolean(array, i);
            case 1: return Array.getByte(array, i);
            case 2: return Array.getShort(array, i);
            case 3: return Array.getChar(array, i);
            case 4: return Array.getInt(array, i);
            case 5: return Array.getLong(array, i);
            case 6: return Array.getFloat(array, i);
            default: return Array.getDouble(array, i);
        }
    }

    private void writeAs(Object array, int i) {
        switch (cls) {
            case 0: Array.setBoolean(array, i, (Boolean) atom); break;
            case 1: Array.setByte(array, i, (Byte) atom); break;
            case 2: Array.setShort(array, i, (Short) atom); break;
            case 3: Array.setChar(array, i, (Character) atom); break;
            case 4: Array.setInt(array, i, (Integer) atom); break;
            case 5: Array.setLong(array, i, (Long) atom); break;
            case 6: Array.setFloat(array, i, (Float) atom); break;
            default: Array.setDouble(array, i, (Double) atom); break;
        }
    }

    private void make(int[] at) {
        double level = 1;
        double newCells = 0;
        double newArrays = 0;
        for (int n : at) {
            if (n < 0) {
                throw new NegativeArraySizeException();
            }
            newArrays += level;
            level *= n;
            newCells += level;
        }
        if (newCells > 500 || cells + newCells > 4000 || arrays + newArrays > 200) {
            throw new Large();
        }
        vars[target] = Array.newInstance(javaClass(cls - 20 * at.length), at);
        arrays += (int) newArrays;
        cells += (int) newCells;
    }

    private Object cloned(Object array) {
        int length = Array.getLength(array);
        if (cells + length > 4000 || arrays + 1 > 200) {
            throw new Large();
        }
        arrays++;
        cells += length;
        Object made = Array.newInstance(array.getClass().getComponentType(), length);
        System.arraycopy(array, 0, made, 0, length);
        return made;
    }

    private void look() {
        looked++;
        if (looked > 20000) {
            throw new Large();
        }
    }

    private int hash(Object o) {
        if (o == null) {
            return 0;
        }
        if (isNumber(o)) {
            return Long.hashCode(whole(o));
        }
        int h = classOf(o);
        if (isArray(o)) {
            for (int i = 0; i < Array.getLength(o); i++) {
                look();
                h = 31 * h + hash(Array.get(o, i));
            }
        }
        return h;
    }

    private boolean equal(Object a, Object b) {
        if (!isArray(a) || !isArray(b)) {
            return isNumber(a) ? a.equals(b) : a == b;
        }
        if (a.getClass() != b.getClass() || Array.getLength(a) != Array.getLength(b)) {
            return false;
        }
        for (int i = 0; i < Array.getLength(a); i++) {
            look();
            if (!equal(Array.get(a, i), Array.get(b, i))) {
                return false;
            }
        }
        return true;
    }

    private static void copy(Object v, Object w, int[] at) {
        if (v == null || w == null) {
            throw new NullPointerException();
        }
        needArray(v);
        needArray(w);
        Class<?> from = v.getClass().getComponentType();
        Class<?> to = w.getClass().getComponentType();
        if ((from.isPrimitive() || to.isPrimitive()) && from != to) {
            throw new IllegalArgumentException();
        }
        System.arraycopy(v, at[0], w, at[1], at[2]);
    }

    private static void turn(Object array) {
        int length = Array.getLength(array);
        Object aside = Array.newInstance(array.getClass().getComponentType(), length);
        System.arraycopy(array, 0, aside, 0, length);
        for (int i = 0; i < length; i++) {
            Array.set(array, i, Array.get(aside, length - 1 - i));
        }
    }
}
