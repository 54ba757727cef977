import java.math.BigInteger;
import java.nio.charset.StandardCharsets;
import java.util.ArrayList;
import java.util.Arrays;
import java.util.Collections;
import java.util.List;
import java.util.Map;
import java.util.NoSuchElementException;
import java.util.regex.Pattern;

/**
 * The document read a second time: the same calls, done as plainly as the words tell them, with Java's library, no
 * thought of room or speed, and no line of the class. ReadingTest holds the class against it.
 */
final class Reading {
    static final List<String> KINDS = List.of(
        "truth byte short char int long float double beast cat lion dog bird duck bat flier swimmer".split(" "));
    static final List<String> REFUSALS = List.of("none missing index size store cast unlike large".split(" "));
    private static final Map<String, List<String>> IS = Map.of("cat", List.of("beast"), "lion", List.of("cat"),
        "dog", List.of("beast", "swimmer"), "bird", List.of("beast", "flier"), "bat", List.of("beast", "flier"),
        "duck", List.of("bird", "swimmer"));
    private static final String[] WIDENS = {"0", "124567", "24567", "34567", "4567", "567", "67", "7"};
    private static final String LETTERS = " bsc lfd";
    private static final String SMALL = "abcdefghijklmnopqrstuvwxyz0123456789";
    private static final Pattern WORD = Pattern.compile("[a-z]{1,8}");
    private static final Pattern NUMBER = Pattern.compile("[0-9]{1,19}[bsclfd]?");
    private static final int NONE = -1;

    /** A NUMBER; of a float or double all of its whole number, which may be 2^63. */
    record Num(int kind, BigInteger number) { }

    record Token(char type, String text, int place) { }

    /** An INDEX or an ATOM: of a VAR its number, of a new CREATURE its KIND, else a VALUE that is told. */
    record Operand(int var, int creature, Object told) { }

    record Place(int var, List<Operand> at) { }

    static final class Creature {
        final int kind;

        Creature(int kind) {
            this.kind = kind;
        }
    }

    static final class Row {
        final int cls;
        final Object[] cells;

        Row(int cls, Object[] cells) {
            this.cls = cls;
            this.cells = cells;
        }
    }

    static final class Step {
        int act;
        int guess = NONE;
        int take;
        int target;
        int first;
        int second;
        int cls;
        Place place;
        final List<Operand> indexes = new ArrayList<>();
        Operand atom;
        List<Token> tokens;
    }

    private static final class Fault extends RuntimeException {
        final int kind;
        final int place;

        Fault(int kind, int place) {
            super("", null, false, false);
            this.kind = kind;
            this.place = place;
        }
    }

    private static final class Refused extends RuntimeException {
        final int refusal;

        Refused(String word) {
            super(word, null, false, false);
            refusal = REFUSALS.indexOf(word);
        }
    }

    private final StringBuilder tape = new StringBuilder();
    private List<Step> program = List.of();
    private int faultKind;
    private String out = "";
    private Object[] vars;
    private int[] outcomes;
    private List<Object> marks;
    // By the numbers that count() has for them, 4 to 9.
    private int[] counts;
    private int looked;

    Reading() {
        forget();
    }

    private void forget() {
        vars = new Object[26];
        outcomes = new int[program.size()];
        Arrays.fill(outcomes, NONE);
        marks = new ArrayList<>();
        counts = new int[10];
    }

    // ---- CLASSES

    private static boolean isClass(int c) {
        return c >= 0 && c < 80 && c % 20 < 17 && !(c == 15 || c == 16);
    }

    private static boolean isKind(String a, String b) {
        return a.equals(b) || IS.getOrDefault(a, List.of()).stream().anyMatch(up -> isKind(up, b));
    }

    private static boolean isBelow(int a, int b) {
        return a == b || a / 20 == b / 20 && a % 20 >= 8 && b % 20 >= 8 && isKind(KINDS.get(a % 20), KINDS.get(b % 20));
    }

    private static boolean widens(int from, int to) {
        return from < 8 && to < 8 && WIDENS[from].indexOf('0' + to) >= 0;
    }

    private static Num num(int kind, long number) {
        return new Num(kind, BigInteger.valueOf(number));
    }

    /** The NUMBER as one of KIND: floats have 24 bits and doubles 53, the nearest, of two the even one. */
    static Num as(BigInteger number, int kind) {
        int bits = kind == 6 ? 24 : kind == 7 ? 53 : 100;
        BigInteger size = number.abs();
        int cut = size.bitLength() - bits;
        if (cut <= 0) {
            return new Num(kind, number);
        }
        BigInteger[] parts = size.divideAndRemainder(BigInteger.ONE.shiftLeft(cut));
        int half = parts[1].compareTo(BigInteger.ONE.shiftLeft(cut - 1));
        boolean up = half > 0 || half == 0 && parts[0].testBit(0);
        BigInteger near = (up ? parts[0].add(BigInteger.ONE) : parts[0]).shiftLeft(cut);
        return new Num(kind, number.signum() < 0 ? near.negate() : near);
    }

    private static long told(Num n) {
        return n.number.min(BigInteger.valueOf(Long.MAX_VALUE)).longValueExact();
    }

    private static int classOf(Object v) {
        return v == null ? NONE : v instanceof Num n ? n.kind : v instanceof Creature c ? c.kind : ((Row) v).cls;
    }

    // ---- TOKENS: w a WORD, n a NUMBER, s a SIGN, e the end, ! no TOKEN

    private List<Token> tokens;
    private int at;
    private int takes;

    private void readTokens(String text, int most) {
        tokens = new ArrayList<>();
        at = 0;
        takes = 0;
        int i = 0;
        char last = ' ';
        while (last != 'e' && last != '!') {
            while (i < text.length() && " \n".indexOf(text.charAt(i)) >= 0) {
                i++;
            }
            int from = i;
            while (i < text.length() && SMALL.indexOf(text.charAt(i)) >= 0) {
                i++;
            }
            if (i == from && i < text.length()) {
                i++;
            }
            String part = text.substring(from, i);
            last = WORD.matcher(part).matches() ? 'w' : NUMBER.matcher(part).matches() ? 'n'
                : part.isEmpty() ? 'e' : part.length() == 1 && "[]=;-".contains(part) ? 's' : '!';
            if (text.length() > most && from >= most) {
                last = '!';
                from = most;
            }
            tokens.add(new Token(last, part, last == 'e' ? text.length() : from));
        }
    }

    private Token token() {
        return tokens.get(Math.min(at, tokens.size() - 1));
    }

    private Fault fault(int kind) {
        return new Fault(token().type == '!' ? 1 : kind, token().place);
    }

    private boolean isOneOf(List<String> words) {
        return token().type == 'w' && words.contains(token().text);
    }

    private boolean is(String text) {
        return "ws".indexOf(token().type) >= 0 && token().text.equals(text);
    }

    private boolean passes(String text) {
        boolean fits = is(text);
        at += fits ? 1 : 0;
        return fits;
    }

    private void pass(String text) {
        if (!passes(text)) {
            throw fault(2);
        }
    }

    private int oneOf(List<String> words) {
        if (!isOneOf(words)) {
            throw fault(2);
        }
        int which = words.indexOf(token().text);
        at++;
        return which;
    }

    private boolean isVar() {
        return token().type == 'w' && token().text.length() == 1;
    }

    private int var() {
        if (!isVar()) {
            throw fault(2);
        }
        at++;
        return tokens.get(at - 1).text.charAt(0) - 'a';
    }

    // ---- PROGRAMS

    private Num number(boolean plain) {
        boolean minus = passes("-");
        if (token().type != 'n') {
            throw fault(2);
        }
        String digits = token().text.replaceAll("[a-z]", "");
        String letter = token().text.substring(digits.length());
        int kind = letter.isEmpty() ? 4 : LETTERS.indexOf(letter);
        BigInteger n = new BigInteger(minus ? "-" + digits : digits);
        int bits = kind == 1 ? 8 : kind == 2 || kind == 3 ? 16 : kind == 4 ? 32 : 64;
        boolean has = kind == 3 ? n.signum() >= 0 && n.bitLength() <= bits : n.bitLength() < bits;
        if (!has || plain && !letter.isEmpty()) {
            throw fault(3);
        }
        at++;
        return as(n, kind);
    }

    private Operand index() {
        return isVar() ? new Operand(var(), NONE, null) : new Operand(NONE, NONE, number(true));
    }

    private Operand atom() {
        if (isVar()) {
            return new Operand(var(), NONE, null);
        }
        if (isOneOf(KINDS.subList(8, 15))) {
            return new Operand(NONE, oneOf(KINDS), null);
        }
        if (isOneOf(List.of("false", "true"))) {
            return new Operand(NONE, NONE, num(0, oneOf(List.of("false", "true"))));
        }
        return new Operand(NONE, NONE, passes("none") ? null : number(false));
    }

    private Operand between() {
        pass("[");
        Operand inside = index();
        pass("]");
        return inside;
    }

    private Place place(Step s, int var) {
        do {
            if (s.indexes.size() == 3) {
                throw fault(4);
            }
            s.indexes.add(between());
        } while (is("["));
        return new Place(var, s.indexes);
    }

    private int cls() {
        int where = token().place;
        int kind = oneOf(KINDS);
        int dims = 0;
        while (is("[")) {
            if (dims == 3) {
                throw fault(4);
            }
            pass("[");
            pass("]");
            dims++;
        }
        if (!isClass(kind + 20 * dims)) {
            throw new Fault(3, where);
        }
        return kind + 20 * dims;
    }

    private int lengths(Step s) {
        s.indexes.add(between());
        int dims = 1;
        boolean open = false;
        while (is("[")) {
            if (dims == 3) {
                throw fault(4);
            }
            pass("[");
            open |= is("]");
            if (!open) {
                s.indexes.add(index());
            }
            pass("]");
            dims++;
        }
        return dims;
    }

    private List<Step> steps() {
        List<String> heads = List.of("guess", "take", "write", "put", "copy", "fill", "swap", "turn", "mark");
        List<Step> all = new ArrayList<>();
        while (all.isEmpty() || token().type != 'e') {
            if (all.size() == 100) {
                throw fault(isVar() || isOneOf(heads) ? 4 : 2);
            }
            all.add(oneStep());
        }
        return all;
    }

    private Step oneStep() {
        Step s = new Step();
        int from = at;
        if (passes("guess")) {
            s.guess = oneOf(REFUSALS);
        }
        if (is("take")) {
            if (takes == 8) {
                throw fault(4);
            }
            takes++;
            at++;
            s.take = 1 + oneOf(REFUSALS.subList(1, 8));
        }
        if (isVar()) {
            beginWithVar(s);
        } else {
            beginWithWord(s);
        }
        pass(";");
        s.tokens = tokens.subList(from, at);
        return s;
    }

    private void beginWithVar(Step s) {
        s.target = var();
        if (is("[")) {
            s.act = 3;
            s.place = place(s, s.target);
            pass("=");
            s.atom = atom();
            return;
        }
        pass("=");
        List<String> words = List.of("read", "write", "get", "put", "new", "clone", "cast", "is", "same", "size",
            "class", "hash", "equal");
        if (isOneOf(words) && !is("write") && !is("put")) {
            s.act = 4 + oneOf(words);
            behindWord(s);
            return;
        }
        s.act = 1;
        s.atom = atom();
        if (s.atom.var != NONE && is("[")) {
            s.act = 2;
            s.place = place(s, s.atom.var);
            s.atom = null;
        }
    }

    private void behindWord(Step s) {
        switch (s.act) {
            case 4: s.cls = oneOf(KINDS.subList(0, 8)); s.place = place(s, var()); break;
            case 6: s.place = place(s, var()); break;
            case 8: s.cls = oneOf(KINDS); s.cls += 20 * lengths(s); break;
            case 10: case 11: s.first = var(); s.cls = cls(); break;
            case 12: case 16: s.first = var(); s.second = var(); break;
            default: s.first = var(); break;
        }
    }

    private void beginWithWord(Step s) {
        List<String> words = List.of("write", "", "put", "", "", "", "", "", "", "", "", "", "copy", "fill", "swap",
            "turn", "mark");
        s.act = 5 + oneOf(words);
        switch (s.act) {
            case 5: case 7:
                s.cls = s.act == 5 ? oneOf(KINDS.subList(0, 8)) : 0;
                s.place = place(s, var());
                pass("=");
                s.atom = atom();
                break;
            case 17:
                s.first = var();
                s.indexes.add(between());
                pass("to");
                s.second = var();
                s.indexes.add(between());
                pass("for");
                s.indexes.add(index());
                break;
            case 18: s.first = var(); pass("with"); s.atom = atom(); break;
            case 19: s.first = var(); s.indexes.add(between()); s.indexes.add(between()); break;
            case 20: s.first = var(); break;
            default: s.atom = atom(); break;
        }
    }

    // ---- RUNS

    private int valueOf(Operand index) {
        Object v = index.var == NONE ? index.told : vars[index.var];
        if (v == null) {
            throw new Refused("missing");
        }
        if (!(v instanceof Num n) || n.kind < 1 || n.kind > 4) {
            throw new Refused("unlike");
        }
        return n.number.intValueExact();
    }

    private Object valueOfAtom(Operand atom) {
        if (atom == null) {
            return null;
        }
        return atom.var != NONE ? vars[atom.var] : atom.creature != NONE ? new Creature(atom.creature) : atom.told;
    }

    private static Row row(Object v) {
        if (v == null) {
            throw new Refused("missing");
        }
        if (!(v instanceof Row r)) {
            throw new Refused("unlike");
        }
        return r;
    }

    private static void need(boolean fits, String refusal) {
        if (!fits) {
            throw new Refused(refusal);
        }
    }

    private static void needCell(Row r, int i) {
        need(i >= 0 && i < r.cells.length, "index");
    }

    private static void write(Row r, int i, Object v) {
        int elements = r.cls - 20;
        if (elements < 8) {
            need(v instanceof Num n && widens(n.kind, elements), "unlike");
            r.cells[i] = as(((Num) v).number, elements);
        } else {
            need(!(v instanceof Num), "unlike");
            need(v == null || isBelow(classOf(v), elements), "store");
            r.cells[i] = v;
        }
    }

    private Row atHand(Place p, List<Integer> path) {
        Object hand = vars[p.var];
        for (int i : path.subList(0, path.size() - 1)) {
            needCell(row(hand), i);
            hand = row(hand).cells[i];
        }
        return row(hand);
    }

    private void usePlace(Step s, List<Integer> path, Object atom) {
        need(s.act != 5 || atom instanceof Num n && n.kind == s.cls, "unlike");
        Row r = atHand(s.place, path);
        int elements = r.cls - 20;
        int i = path.get(path.size() - 1);
        need(s.act != 4 && s.act != 5 || elements < 8, "unlike");
        need(s.act != 7 || elements >= 8 || atom instanceof Num, "unlike");
        needCell(r, i);
        if (s.act == 2 || s.act == 6) {
            vars[s.target] = r.cells[i];
        } else if (s.act == 4) {
            need(widens(elements, s.cls), "unlike");
            vars[s.target] = as(((Num) r.cells[i]).number, s.cls);
        } else if (s.act == 7) {
            need(elements < 8 || atom == null || isBelow(classOf(atom), elements), "unlike");
            write(r, i, atom);
        } else {
            write(r, i, atom);
        }
    }

    private void made(long arrays, long cells) {
        need(cells <= 500 && counts[5] + cells <= 4000 && counts[4] + arrays <= 200, "large");
        counts[4] += arrays;
        counts[5] += cells;
    }

    private void makeRows(Step s, List<Integer> lengths) {
        need(Collections.min(lengths) >= 0, "size");
        BigInteger arrays = BigInteger.ZERO;
        BigInteger cells = BigInteger.ZERO;
        BigInteger level = BigInteger.ONE;
        for (int length : lengths) {
            arrays = arrays.add(level);
            level = level.multiply(BigInteger.valueOf(length));
            cells = cells.add(level);
        }
        need(arrays.bitLength() < 32 && cells.bitLength() < 32, "large");
        made(arrays.longValue(), cells.longValue());
        vars[s.target] = rows(s.cls, lengths);
    }

    private static Row rows(int cls, List<Integer> lengths) {
        Row r = new Row(cls, new Object[lengths.get(0)]);
        for (int i = 0; i < r.cells.length; i++) {
            r.cells[i] = lengths.size() > 1 ? rows(cls - 20, lengths.subList(1, lengths.size()))
                : cls - 20 < 8 ? num(cls - 20, 0) : null;
        }
        return r;
    }

    private static boolean isSame(Object v, Object w) {
        return v instanceof Num n ? n.equals(w) : v == w;
    }

    private void lookAtCell() {
        need(looked < 20000, "large");
        looked++;
    }

    private int hash(Object v) {
        if (v instanceof Row r) {
            int h = r.cls;
            for (Object cell : r.cells) {
                lookAtCell();
                h = 31 * h + hash(cell);
            }
            return h;
        }
        return v == null ? 0 : v instanceof Num n ? (int) told(n) ^ (int) (told(n) >> 32) : classOf(v);
    }

    private boolean isEqual(Object v, Object w) {
        if (!(v instanceof Row a) || !(w instanceof Row b)) {
            return isSame(v, w);
        }
        boolean equal = a.cls == b.cls && a.cells.length == b.cells.length;
        for (int i = 0; i < a.cells.length && equal; i++) {
            lookAtCell();
            equal = isEqual(a.cells[i], b.cells[i]);
        }
        return equal;
    }

    private static void copy(Object from, int i, Object to, int j, int count) {
        need(from != null && to != null, "missing");
        need(from instanceof Row && to instanceof Row, "unlike");
        Row a = (Row) from;
        Row b = (Row) to;
        need(a.cls == b.cls || a.cls >= 28 && b.cls >= 28, "unlike");
        need(count >= 0 && i >= 0 && j >= 0, "index");
        need((long) i + count <= a.cells.length && (long) j + count <= b.cells.length, "index");
        Object[] aside = a.cells.clone();
        for (int n = 0; n < count; n++) {
            write(b, j + n, aside[i + n]);
        }
    }

    private Object cast(Object v, int cls) {
        need(!(v instanceof Num n) || n.kind == cls, "unlike");
        need(v == null || isBelow(classOf(v), cls), "cast");
        return v;
    }

    private void perform(Step s) {
        List<Integer> at = new ArrayList<>();
        for (Operand index : s.indexes) {
            at.add(valueOf(index));
        }
        Object atom = valueOfAtom(s.atom);
        Object v = vars[s.first];
        Object w = vars[s.second];
        looked = 0;
        switch (s.act) {
            case 1: vars[s.target] = atom; break;
            case 8: makeRows(s, at); break;
            case 9: made(1, row(v).cells.length); vars[s.target] = new Row(row(v).cls, row(v).cells.clone()); break;
            case 10: vars[s.target] = cast(v, s.cls); break;
            case 11: vars[s.target] = num(0, v != null && isBelow(classOf(v), s.cls) ? 1 : 0); break;
            case 12: vars[s.target] = num(0, isSame(v, w) ? 1 : 0); break;
            case 13: vars[s.target] = num(4, row(v).cells.length); break;
            case 14: vars[s.target] = num(4, classOf(v)); break;
            case 15: vars[s.target] = num(4, hash(v)); break;
            case 16: vars[s.target] = num(0, isEqual(v, w) ? 1 : 0); break;
            case 17: copy(v, at.get(0), w, at.get(1), at.get(2)); break;
            case 18:
                for (int i = 0; i < row(v).cells.length; i++) {
                    write(row(v), i, atom);
                }
                break;
            case 19:
                needCell(row(v), at.get(0));
                needCell(row(v), at.get(1));
                Collections.swap(Arrays.asList(row(v).cells), at.get(0), at.get(1));
                break;
            case 20: Collections.reverse(Arrays.asList(row(v).cells)); break;
            case 21: marks.add(atom); break;
            default: usePlace(s, at, atom); break;
        }
    }

    private int refusalOf(Step s) {
        try {
            perform(s);
            return 0;
        } catch (Refused r) {
            return r.refusal;
        }
    }

    // ---- the calls

    int feed(int a, int b, int c, int d, int e) {
        if (tape.length() + 20 > 3100) {
            return NONE;
        }
        for (int n : new int[] {a, b, c, d, e}) {
            for (int place = 3; place >= 0; place--) {
                tape.append((char) (n >>> 8 * place & 255));
            }
        }
        return tape.length();
    }

    boolean end(int n) {
        boolean has = n >= 0 && n <= tape.length();
        tape.setLength(has ? n : tape.length());
        return has;
    }

    int compile() {
        readTokens(tape.toString(), 3000);
        try {
            program = steps();
        } catch (Fault f) {
            faultKind = f.kind;
            return -1 - f.place;
        }
        faultKind = 0;
        tape.setLength(0);
        forget();
        return program.size();
    }

    int fault() {
        return faultKind;
    }

    private static void needSuch(boolean there) {
        if (!there) {
            throw new NoSuchElementException();
        }
    }

    private Step stepAt(int k) {
        needSuch(k >= 0 && k < program.size());
        return program.get(k);
    }

    int step(int k, int what) {
        Step s = stepAt(k);
        needSuch(what >= 0 && what <= 3);
        return new int[] {s.act, s.guess, s.take, s.tokens.get(0).place}[what];
    }

    int spell(int k) {
        StringBuilder s = new StringBuilder();
        for (Token t : stepAt(k).tokens) {
            s.append(t.type == 'n' ? t.text.replaceAll("^0+(?=[0-9])", "") : t.text).append(' ');
        }
        out = s.toString().trim().replaceAll(" (?=[\\[\\];])", "").replaceAll("(?<=[\\[-]) ", "");
        return out.length();
    }

    int octet(int i) {
        needSuch(i >= 0 && i < out.length());
        return out.getBytes(StandardCharsets.ISO_8859_1)[i];
    }

    int run() {
        if (program.isEmpty()) {
            throw new IllegalStateException();
        }
        forget();
        for (int k = 0; k < program.size(); k++) {
            Step s = program.get(k);
            int refusal = refusalOf(s);
            outcomes[k] = refusal;
            counts[6]++;
            counts[7] += s.guess == NONE ? 0 : 1;
            counts[8] += s.guess == refusal ? 1 : 0;
            if (refusal != 0 && s.take != refusal) {
                return 1 + k;
            }
            counts[9] += refusal != 0 ? 1 : 0;
        }
        return 0;
    }

    int outcome(int k) {
        stepAt(k);
        return outcomes[k];
    }

    /** An ARRAY of one CELL with what is there in it; null where there is no such path. */
    private Object[] walk(int v, int... path) {
        if (v < 0 || v > 25) {
            return null;
        }
        Object hand = vars[v];
        for (int n = 0; n < path.length && path[n] != NONE; n++) {
            if (!(hand instanceof Row r) || path[n] < 0 || path[n] >= r.cells.length) {
                return null;
            }
            hand = r.cells[path[n]];
        }
        return new Object[] {hand};
    }

    int look(int v, int i, int j, int k, int what) {
        Object[] there = walk(v, i, j, k);
        if (what == 0) {
            return there == null ? -2 : classOf(there[0]);
        }
        return what == 1 && there != null && there[0] instanceof Row r ? r.cells.length : NONE;
    }

    long value(int v, int i, int j, int k) {
        Object[] there = walk(v, i, j, k);
        needSuch(there != null && there[0] instanceof Num);
        return told((Num) there[0]);
    }

    boolean same(int v, int i, int w, int j) {
        Object[] one = walk(v, i);
        Object[] other = walk(w, j);
        return one != null && other != null && (one[0] instanceof Row || one[0] instanceof Creature)
            && one[0] == other[0];
    }

    private boolean isKept(int k) {
        return k >= 0 && k < 50 && k < marks.size();
    }

    int mark(int k, int what) {
        return what == 0 && isKept(k) ? classOf(marks.get(k)) : NONE;
    }

    long marked(int k) {
        needSuch(isKept(k) && marks.get(k) instanceof Num);
        return told((Num) marks.get(k));
    }

    int named() {
        readTokens(tape.toString(), 3100);
        tape.setLength(0);
        try {
            int cls = cls();
            return token().type == 'e' ? cls : NONE;
        } catch (Fault f) {
            return NONE;
        }
    }

    int name(int of, int i) {
        String name = isClass(of) ? KINDS.get(of % 20) + "[]".repeat(of / 20) : "";
        return i >= 0 && i < name.length() ? name.charAt(i) : NONE;
    }

    boolean below(int a, int b) {
        return isClass(a) && isClass(b) && isBelow(a, b);
    }

    private static Object newValue(int cls) {
        return cls < 8 ? num(cls, 1) : cls < 20 ? new Creature(cls) : new Row(cls, new Object[0]);
    }

    int stores(int a, int b) {
        if (!isClass(a) || a < 20 || !isClass(b)) {
            return NONE;
        }
        try {
            write(rows(a, List.of(1)), 0, newValue(b));
            return 0;
        } catch (Refused r) {
            return r.refusal;
        }
    }

    int copies(int a, int b, int c) {
        if (stores(a, b) != 0 || !isClass(c) || c < 20) {
            return NONE;
        }
        Row from = rows(a, List.of(1));
        write(from, 0, newValue(b));
        try {
            copy(from, 0, rows(c, List.of(1)), 0, 1);
            return 0;
        } catch (Refused r) {
            return r.refusal;
        }
    }

    int count(int what) {
        switch (what) {
            case 0: return program.size();
            case 1: return tape.length();
            case 2: return out.length();
            case 3: return marks.size();
            default: return what >= 4 && what <= 9 ? counts[what] : NONE;
        }
    }
}
