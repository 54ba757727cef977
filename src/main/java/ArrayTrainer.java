import java.util.NoSuchElementException;

/** A trainer of arrays; the numbered promises of its document say what each call answers. */
public final class ArrayTrainer {
    public static final int NONE = -1;

    private static final int TAPE_MAX = 3100;
    private static final int TEXT_MAX = 3000;
    private static final int STEPS_MAX = 100;
    private static final int VARS = 26;
    private static final int NO_PATH = -2;

    private static final int DONE = 0;
    private static final int MISSING = 1;
    private static final int INDEX = 2;
    private static final int SIZE = 3;
    private static final int STORE = 4;
    private static final int CAST = 5;
    private static final int UNLIKE = 6;
    private static final int LARGE = 7;

    private final byte[] tape;
    private int tapeSize;
    private final byte[] text;
    private int textSize;
    private Program program;
    private Program spare;
    private int faultKind;
    private final Parser parser;
    private final Speller speller;
    private final Runner runner;

    public ArrayTrainer() {
        byte[] fed = new byte[TAPE_MAX];
        byte[] kept = new byte[TEXT_MAX];
        tape = fed;
        text = kept;
        program = new Program();
        spare = new Program();
        parser = new Parser(new Lexer(fed));
        speller = new Speller(new Lexer(kept));
        runner = new Runner();
    }

    public int feed(int a, int b, int c, int d, int e) {
        if (tapeSize > TAPE_MAX - 20) {
            return NONE;
        }
        feedOne(a);
        feedOne(b);
        feedOne(c);
        feedOne(d);
        feedOne(e);
        return tapeSize;
    }

    private void feedOne(int number) {
        for (int shift = 24; shift >= 0 && tapeSize < TAPE_MAX; shift -= 8) {
            tape[tapeSize] = (byte) (number >> shift);
            tapeSize++;
        }
    }

    public boolean end(int n) {
        if (n < 0 || n > tapeSize) {
            return false;
        }
        tapeSize = n;
        return true;
    }

    public int compile() {
        // Read into the spare, so that the PROGRAM stays where there is a FAULT.
        boolean fine = parser.readProgram(tapeSize, spare);
        faultKind = parser.faultKind;
        if (!fine || tapeSize > TEXT_MAX) {
            return -1 - parser.faultPlace;
        }
        Program old = program;
        program = spare;
        spare = old;
        System.arraycopy(tape, 0, text, 0, tapeSize);
        textSize = tapeSize;
        tapeSize = 0;
        runner.forget();
        return program.size;
    }

    public int fault() {
        return faultKind;
    }

    public int step(int k, int what) throws NoSuchElementException {
        if (k < 0 || k >= program.size || what < 0 || what > 3) {
            throw new NoSuchElementException();
        }
        Step s = program.stepAt(k);
        switch (what) {
            case 0: return s.act;
            case 1: return s.guess;
            case 2: return s.take;
            default: return s.place;
        }
    }

    public int spell(int k) throws NoSuchElementException {
        if (k < 0 || k >= program.size) {
            throw new NoSuchElementException();
        }
        speller.write(textSize, program.stepAt(k).place);
        return speller.size;
    }

    public int octet(int i) throws NoSuchElementException {
        if (i < 0 || i >= speller.size) {
            throw new NoSuchElementException();
        }
        return speller.byteAt(i);
    }

    public int run() throws IllegalStateException {
        if (program.size == 0) {
            throw new IllegalStateException();
        }
        return runner.runAll(program);
    }

    public int outcome(int k) throws NoSuchElementException {
        if (k < 0 || k >= program.size) {
            throw new NoSuchElementException();
        }
        return runner.outcomeAt(k);
    }

    public int look(int v, int i, int j, int k, int what) {
        if (what != 0 && what != 1) {
            return NONE;
        }
        if (!runner.walk(v, i, j, k)) {
            return what == 0 ? NO_PATH : NONE;
        }
        return what == 0 ? runner.hand.cls : runner.handLength();
    }

    public long value(int v, int i, int j, int k) throws NoSuchElementException {
        if (!runner.walk(v, i, j, k) || !runner.hand.isNumber()) {
            throw new NoSuchElementException();
        }
        return runner.hand.datum;
    }

    public boolean same(int v, int i, int w, int j) {
        return runner.holdSameThing(v, i, w, j);
    }

    public int mark(int k, int what) {
        if (what != 0 || k < 0 || k >= runner.marksKept()) {
            return NONE;
        }
        return runner.markAt(k).cls;
    }

    public long marked(int k) throws NoSuchElementException {
        if (k < 0 || k >= runner.marksKept() || !runner.markAt(k).isNumber()) {
            throw new NoSuchElementException();
        }
        return runner.markAt(k).datum;
    }

    public int named() {
        int cls = parser.readClassAlone(tapeSize);
        tapeSize = 0;
        return cls;
    }

    public int name(int of, int i) {
        return Classes.isClass(of) ? Classes.nameByte(of, i) : NONE;
    }

    public boolean below(int a, int b) {
        return Classes.isClass(a) && Classes.isClass(b) && Classes.isBelow(a, b);
    }

    public int stores(int a, int b) {
        if (!Classes.isArrays(a) || !Classes.isClass(b)) {
            return NONE;
        }
        return Classes.writeRefusal(Classes.elementsOf(a), b);
    }

    public int copies(int a, int b, int c) {
        if (!Classes.isArrays(c) || stores(a, b) != DONE) {
            return NONE;
        }
        if (Classes.areUnlike(a, c)) {
            return UNLIKE;
        }
        // What was stored in numbers has their KIND now, and is like what c holds.
        return Classes.ofNumbers(a) ? DONE : Classes.writeRefusal(Classes.elementsOf(c), b);
    }

    public int count(int what) {
        switch (what) {
            case 0: return program.size;
            case 1: return tapeSize;
            case 2: return speller.size;
            default: return runner.tally(what);
        }
    }

    /** What can be said of CLASSES and KINDS by their numbers alone. */
    private static final class Classes {
        static final String NAMES =
            "truth byte short char int long float double beast cat lion dog bird duck bat flier swimmer";
        static final int TRUTH = 0;
        static final int INT = 4;
        static final int LONG = 5;
        static final int FLOAT = 6;
        static final int DOUBLE = 7;
        static final int FIRST_CREATURE = 8;
        static final int FIRST_ALONE_NONE = 15;
        static final int KINDS = 17;
        static final int DIM = 20;
        static final int DIMS_MAX = 3;

        private static final long LONG_LEAST = 1L << 63;

        // Bit k of row n is set where a NUMBER of KIND n widens to KIND k.
        private static final int[] WIDENS = {0x01, 0xF6, 0xF4, 0xF8, 0xF0, 0xE0, 0xC0, 0x80};
        // Bit k of row n is set where what is of KIND 8 + n is of KIND k.
        private static final int[] IS = {
            0x00100, 0x00300, 0x00700, 0x10900, 0x09100, 0x1B100, 0x0C100, 0x08000, 0x10000};
        private static final long[] LEAST = {
            0L, -128L, -32768L, 0L, -2147483648L,
            -9223372036854775808L, -9223372036854775808L, -9223372036854775808L};
        private static final long[] GREATEST = {
            1L, 127L, 32767L, 65535L, 2147483647L,
            9223372036854775807L, 9223372036854775807L, 9223372036854775807L};

        static boolean isClass(int c) {
            if (c < 0 || c >= DIM * (DIMS_MAX + 1)) {
                return false;
            }
            int kind = c % DIM;
            return c < DIM ? kind < FIRST_ALONE_NONE : kind < KINDS;
        }

        static boolean isArrays(int c) {
            return c >= DIM && isClass(c);
        }

        static boolean isNumber(int c) {
            return c >= 0 && c < FIRST_CREATURE;
        }

        static boolean ofNumbers(int c) {
            return c >= DIM && isNumber(c - DIM);
        }

        static int elementsOf(int c) {
            return c - DIM;
        }

        /** Takes flier and swimmer without DIMS too, since ELEMENTS may be of these. */
        static boolean isBelow(int a, int b) {
            if (a == b) {
                return true;
            }
            if (a < 0 || b < 0 || a / DIM != b / DIM) {
                return false;
            }
            int row = a % DIM - FIRST_CREATURE;
            int other = b % DIM;
            return row >= 0 && row < IS.length && other >= FIRST_CREATURE && (IS[row] >> other & 1) == 1;
        }

        static boolean widens(int from, int to) {
            boolean numbers = from >= 0 && from < WIDENS.length && to >= 0 && to < WIDENS.length;
            return numbers && (WIDENS[from] >> to & 1) == 1;
        }

        /**
         * A float or double is held as its whole number, for it never has another part; 2^63, the
         * only one beyond a long, is held as 2^63 - 1, which no float and no double is.
         */
        static long widened(long number, int to) {
            if (to == FLOAT) {
                return (long) (float) number;
            }
            return to == DOUBLE ? (long) (double) number : number;
        }

        /** A magnitude below 0 stands for one of 2^63 and more: 19 digits stay under 2^64. */
        static boolean has(int kind, long magnitude, boolean negative) {
            if (kind < 0 || kind >= LEAST.length) {
                return false;
            }
            if (magnitude < 0) {
                return negative && magnitude == LONG_LEAST && kind >= LONG;
            }
            long number = negative ? -magnitude : magnitude;
            return number >= LEAST[kind] && number <= GREATEST[kind];
        }

        /** The REFUSAL where a VALUE of a CLASS, or none, is plainly written to such ELEMENTS. */
        static int writeRefusal(int elements, int cls) {
            if (isNumber(elements)) {
                return widens(cls, elements) ? DONE : UNLIKE;
            }
            if (cls == NONE) {
                return DONE;
            }
            if (isNumber(cls)) {
                return UNLIKE;
            }
            return isBelow(cls, elements) ? DONE : STORE;
        }

        /** Whether CELLS of one CLASS of ARRAYS can't be copied to the other, whatever is in them. */
        static boolean areUnlike(int a, int b) {
            return a != b && (ofNumbers(a) || ofNumbers(b));
        }

        static int nameByte(int cls, int i) {
            int begin = nameBegin(cls % DIM);
            int length = nameLength(begin);
            if (i < 0 || i >= length + 2 * (cls / DIM)) {
                return NONE;
            }
            if (i < length) {
                return NAMES.charAt(begin + i);
            }
            return (i - length) % 2 == 0 ? '[' : ']';
        }

        private static int nameBegin(int kind) {
            int passed = 0;
            for (int at = 0; at < NAMES.length(); at++) {
                if (passed == kind) {
                    return at;
                }
                if (NAMES.charAt(at) == ' ') {
                    passed++;
                }
            }
            return NAMES.length();
        }

        private static int nameLength(int begin) {
            int length = 0;
            while (begin + length < NAMES.length() && NAMES.charAt(begin + length) != ' ') {
                length++;
            }
            return length;
        }
    }

    /** Goes along a text TOKEN by TOKEN. */
    private static final class Lexer {
        static final int END = 0;
        static final int BAD = 1;
        static final int WORD = 2;
        static final int NUMBER = 3;
        static final int SIGN = 4;

        private static final int WORD_MAX = 8;
        private static final int DIGITS_MAX = 19;
        private static final String SIGNS = "[]=;-";
        // Each letter stands at the number of its KIND.
        private static final String LETTERS = "-bsc-lfd";

        private final byte[] text;
        private int size;
        private int limit;
        private int digits;
        int kind;
        int from;
        int to;

        Lexer(byte[] text) {
            this.text = text;
        }

        /** No TOKEN begins at the limit or behind it, if the text is longer than that. */
        void open(int size, int limit, int at) {
            this.size = Math.max(0, Math.min(size, text.length));
            this.limit = limit;
            this.to = Math.max(0, at);
        }

        void next() {
            int at = to;
            while (at < size && (text[at] == ' ' || text[at] == '\n')) {
                at++;
            }
            from = at;
            to = at;
            if (size > limit && at >= limit) {
                kind = BAD;
                from = limit;
            } else if (at >= size) {
                kind = END;
                from = size;
            } else {
                while (to < size && isSmall(text[to])) {
                    to++;
                }
                kind = to > at ? kindOfSmalls() : kindOfOther();
            }
        }

        private static boolean isSmall(byte b) {
            return b >= 'a' && b <= 'z' || b >= '0' && b <= '9';
        }

        private int kindOfSmalls() {
            digits = 0;
            for (int at = from; at < to && text[at] <= '9'; at++) {
                digits++;
            }
            int rest = to - from - digits;
            if (digits > 0) {
                boolean plain = rest == 0 || rest == 1 && LETTERS.indexOf((char) text[to - 1]) >= 0;
                return plain && digits <= DIGITS_MAX ? NUMBER : BAD;
            }
            for (int at = from; at < to; at++) {
                if (text[at] <= '9') {
                    return BAD;
                }
            }
            return rest <= WORD_MAX ? WORD : BAD;
        }

        private int kindOfOther() {
            to = from + 1;
            return SIGNS.indexOf((char) (text[from] & 255)) >= 0 ? SIGN : BAD;
        }

        boolean isSign(char sign) {
            return kind == SIGN && from < size && text[from] == sign;
        }

        /** The VAR that the TOKEN is, or NONE. */
        int variable() {
            return kind == WORD && to - from == 1 && from < size ? text[from] - 'a' : NONE;
        }

        boolean isWord(String word) {
            return wordIn(word) == 0;
        }

        /** Which WORD of a list with blanks between them the TOKEN is, or NONE. */
        int wordIn(String list) {
            if (kind != WORD) {
                return NONE;
            }
            int passed = 0;
            int begin = 0;
            for (int at = 0; at <= list.length(); at++) {
                if (at == list.length() || list.charAt(at) == ' ') {
                    if (isPart(list, begin, at)) {
                        return passed;
                    }
                    passed++;
                    begin = at + 1;
                }
            }
            return NONE;
        }

        private boolean isPart(String list, int begin, int behind) {
            if (behind - begin != to - from || to > size) {
                return false;
            }
            for (int i = 0; begin + i < behind; i++) {
                if (list.charAt(begin + i) != text[from + i]) {
                    return false;
                }
            }
            return true;
        }

        int numberKind() {
            return from + digits < to ? LETTERS.indexOf((char) text[from + digits]) : Classes.INT;
        }

        long magnitude() {
            long sum = 0;
            for (int at = from; at < from + digits && at < size; at++) {
                sum = sum * 10 + (text[at] - '0');
            }
            return sum;
        }

        /** Where the TOKEN begins without the 0s that stand ahead of a NUMBER. */
        int spelledFrom() {
            int at = from;
            if (kind == NUMBER) {
                while (at + 1 < from + digits && text[at] == '0') {
                    at++;
                }
            }
            return at;
        }

        int byteAt(int at) {
            return at >= 0 && at < size ? text[at] : 0;
        }
    }

    /** A STEP as it was read. */
    private static final class Step {
        static final int PLAIN = 1;
        static final int READ = 2;
        static final int WRITE = 3;
        static final int READ_AS = 4;
        static final int WRITE_AS = 5;
        static final int GET = 6;
        static final int PUT = 7;
        static final int NEW = 8;
        static final int CLONE = 9;
        static final int CAST_TO = 10;
        static final int IS = 11;
        static final int SAME = 12;
        static final int LENGTH = 13;
        static final int CLASS = 14;
        static final int HASH = 15;
        static final int EQUAL = 16;
        static final int COPY = 17;
        static final int FILL = 18;
        static final int SWAP = 19;
        static final int TURN = 20;
        static final int MARK = 21;

        static final int INDEXES_MAX = 3;

        int act;
        int guess;
        int take;
        int place;
        int target;
        int first;
        int second;
        int cls;
        int blankDims;
        int indexes;
        final int[] indexVar = new int[INDEXES_MAX];
        final int[] indexNumber = new int[INDEXES_MAX];
        int atomVar;
        int atomClass;
        long atomNumber;

        void clear(int place) {
            act = 0;
            guess = NONE;
            take = 0;
            this.place = place;
            target = NONE;
            first = NONE;
            second = NONE;
            cls = 0;
            blankDims = 0;
            indexes = 0;
            atomVar = NONE;
            atomClass = NONE;
            atomNumber = 0;
        }

        void addIndex(int v, int number) {
            if (indexes < INDEXES_MAX) {
                indexVar[indexes] = v;
                indexNumber[indexes] = number;
                indexes++;
            }
        }
    }

    /** STEPS, made when first needed and used again. */
    private static final class Program {
        private final Step[] steps = new Step[STEPS_MAX];
        private final Step beyond = new Step();
        int size;

        Step stepAt(int k) {
            if (k < 0 || k >= steps.length) {
                return beyond;
            }
            Step s = steps[k];
            if (s == null) {
                s = new Step();
                steps[k] = s;
            }
            return s;
        }
    }

    /** Reads a PROGRAM up to its first FAULT. */
    private static final class Parser {
        private static final String REFUSALS = "missing index size store cast unlike large";
        // By the numbers of the ACTS; the first three have no WORD.
        private static final String ACTS =
            "- - - read write get put new clone cast is same size class hash equal copy fill swap turn mark";
        private static final String CLASS_PARTS = "n/";
        private static final int TAKES_MAX = 8;
        private static final int PARTS_MAX = 100;
        private static final int NO_TOKEN = 1;
        private static final int CANT_COME = 2;
        private static final int HAS_NOT = 3;
        private static final int TOO_MANY = 4;

        private final Lexer lexer;
        private final Step scratch;
        private Step now;
        private int takes;
        private boolean negative;
        private int namePlace;
        int faultKind;
        int faultPlace;

        Parser(Lexer lexer) {
            this.lexer = lexer;
            scratch = new Step();
            now = scratch;
        }

        boolean readProgram(int size, Program into) {
            start(size, TEXT_MAX);
            into.size = 0;
            for (int k = 0; k <= STEPS_MAX; k++) {
                if (k > 0 && lexer.kind == Lexer.END) {
                    into.size = k;
                    return true;
                }
                if (k == STEPS_MAX) {
                    return refuse(canBegin() ? TOO_MANY : CANT_COME);
                }
                now = into.stepAt(k);
                now.clear(lexer.from);
                if (!readGuess() || !readTake() || !readHead() || !readParts(partsOf(now))) {
                    return false;
                }
            }
            return false;
        }

        /** The CLASS that is the whole text, or NONE. */
        int readClassAlone(int size) {
            start(size, TAPE_MAX);
            // The STEP read last may be the PROGRAM's.
            now = scratch;
            now.clear(0);
            return readParts(CLASS_PARTS) && lexer.kind == Lexer.END ? now.cls : NONE;
        }

        private void start(int size, int limit) {
            faultKind = 0;
            faultPlace = 0;
            takes = 0;
            negative = false;
            lexer.open(size, limit, 0);
            lexer.next();
        }

        private boolean refuse(int kind) {
            faultKind = lexer.kind == Lexer.BAD ? NO_TOKEN : kind;
            faultPlace = lexer.from;
            return false;
        }

        private boolean passIf(boolean fits) {
            if (!fits) {
                return refuse(CANT_COME);
            }
            lexer.next();
            return true;
        }

        private boolean canBegin() {
            return lexer.variable() != NONE || lexer.isWord("guess") || lexer.isWord("take")
                || leads(lexer.wordIn(ACTS) + 1);
        }

        private static boolean leads(int act) {
            return act == Step.WRITE_AS || act == Step.PUT || act >= Step.COPY;
        }

        private static boolean comesBehindEquals(int act) {
            return act >= Step.READ_AS && !leads(act);
        }

        private boolean readGuess() {
            if (!lexer.isWord("guess")) {
                return true;
            }
            lexer.next();
            boolean none = lexer.isWord("none");
            int refusal = lexer.wordIn(REFUSALS) + 1;
            now.guess = refusal;
            return passIf(none || refusal != DONE);
        }

        private boolean readTake() {
            if (!lexer.isWord("take")) {
                return true;
            }
            if (takes == TAKES_MAX) {
                return refuse(TOO_MANY);
            }
            takes++;
            lexer.next();
            now.take = lexer.wordIn(REFUSALS) + 1;
            return passIf(now.take != DONE);
        }

        /** Reads as far as it takes to know the ACT. */
        private boolean readHead() {
            int v = lexer.variable();
            if (v == NONE) {
                now.act = lexer.wordIn(ACTS) + 1;
                return passIf(leads(now.act));
            }
            lexer.next();
            if (lexer.isSign('[')) {
                now.act = Step.WRITE;
                now.first = v;
                return true;
            }
            now.target = v;
            if (!passIf(lexer.isSign('='))) {
                return false;
            }
            readHeadBehindEquals();
            return true;
        }

        private void readHeadBehindEquals() {
            int act = lexer.wordIn(ACTS) + 1;
            if (comesBehindEquals(act)) {
                now.act = act;
                lexer.next();
                return;
            }
            now.act = Step.PLAIN;
            int v = lexer.variable();
            if (v == NONE) {
                return;
            }
            lexer.next();
            if (lexer.isSign('[')) {
                now.act = Step.READ;
                now.first = v;
            } else {
                now.atomVar = v;
            }
        }

        /**
         * What follows a STEP's head, a sign for each part: [ ] = ; are themselves, m is a - or
         * nothing, acceptPart tells the other letters, and readRepeat what may come several times.
         * A row of parts, and not methods within methods, keeps the calls shallow.
         */
        private static String partsOf(Step s) {
            switch (s.act) {
                case Step.PLAIN: return s.atomVar == NONE ? "ma;" : ";";
                case Step.READ: return "[mi]*;";
                case Step.WRITE: return "[mi]*=ma;";
                case Step.READ_AS: return "kv[mi]*;";
                case Step.WRITE_AS: return "kv[mi]*=ma;";
                case Step.GET: return "v[mi]*;";
                case Step.PUT: return "v[mi]*=ma;";
                case Step.NEW: return "n[mi]+;";
                case Step.CAST_TO: case Step.IS: return "vn/;";
                case Step.SAME: case Step.EQUAL: return "vw;";
                case Step.COPY: return "v[mi]tw[mi]fmi;";
                case Step.FILL: return "vhma;";
                case Step.SWAP: return "v[mi][mi];";
                case Step.MARK: return "ma;";
                default: return "v;";
            }
        }

        private boolean readParts(String parts) {
            int at = 0;
            for (int n = 0; n < PARTS_MAX && at >= 0 && at < parts.length(); n++) {
                char part = parts.charAt(at);
                if (part == '*' || part == '+' || part == '/') {
                    at = readRepeat(part, at);
                } else if (part == 'm') {
                    negative = lexer.isSign('-');
                    if (negative) {
                        lexer.next();
                    }
                    at++;
                } else {
                    if (!acceptPart(part)) {
                        return false;
                    }
                    lexer.next();
                    at++;
                }
            }
            return at >= 0;
        }

        /**
         * Where to go on in the parts, NONE at a FAULT: * stands behind the [mi] of a PLACE, +
         * behind that of LENGTHS, and / behind the NAME of a CLASS.
         */
        private int readRepeat(char part, int at) {
            int dims = now.indexes + now.blankDims;
            if (part == '/') {
                dims = now.blankDims;
            }
            if (!lexer.isSign('[')) {
                return part == '*' || endClass(dims) ? at + 1 : NONE;
            }
            if (dims == Classes.DIMS_MAX) {
                refuse(TOO_MANY);
                return NONE;
            }
            if (part == '*') {
                return at - 4;
            }
            lexer.next();
            if (part == '+' && now.blankDims == 0 && !lexer.isSign(']')) {
                return at - 3;
            }
            now.blankDims++;
            return passIf(lexer.isSign(']')) ? at : NONE;
        }

        private boolean endClass(int dims) {
            now.cls += dims * Classes.DIM;
            if (Classes.isClass(now.cls)) {
                return true;
            }
            // Whatever the TOKEN is that is no [ here, the NAME stands ahead of it.
            faultKind = HAS_NOT;
            faultPlace = namePlace;
            return false;
        }

        /** Takes what the TOKEN tells, or sets the FAULT. */
        private boolean acceptPart(char part) {
            switch (part) {
                case 'v':
                    now.first = lexer.variable();
                    return acceptIf(now.first != NONE);
                case 'w':
                    now.second = lexer.variable();
                    return acceptIf(now.second != NONE);
                case 'k':
                    now.cls = lexer.wordIn(Classes.NAMES);
                    return acceptIf(Classes.isNumber(now.cls));
                case 'n':
                    now.cls = lexer.wordIn(Classes.NAMES);
                    namePlace = lexer.from;
                    return acceptIf(now.cls != NONE);
                case 'i': return acceptIndex();
                case 'a': return lexer.kind == Lexer.NUMBER ? acceptNumber() : acceptOtherAtom();
                case 't': return acceptIf(lexer.isWord("to"));
                case 'f': return acceptIf(lexer.isWord("for"));
                case 'h': return acceptIf(lexer.isWord("with"));
                default: return acceptIf(lexer.isSign(part));
            }
        }

        private boolean acceptIf(boolean fits) {
            return fits || refuse(CANT_COME);
        }

        private boolean acceptIndex() {
            if (lexer.kind != Lexer.NUMBER) {
                int v = negative ? NONE : lexer.variable();
                now.addIndex(v, 0);
                return acceptIf(v != NONE);
            }
            long magnitude = lexer.magnitude();
            if (lexer.numberKind() != Classes.INT || !Classes.has(Classes.INT, magnitude, negative)) {
                return refuse(HAS_NOT);
            }
            now.addIndex(NONE, (int) (negative ? -magnitude : magnitude));
            return true;
        }

        private boolean acceptNumber() {
            int kind = lexer.numberKind();
            long magnitude = lexer.magnitude();
            if (!Classes.has(kind, magnitude, negative)) {
                return refuse(HAS_NOT);
            }
            now.atomClass = kind;
            now.atomNumber = Classes.widened(negative ? -magnitude : magnitude, kind);
            return true;
        }

        private boolean acceptOtherAtom() {
            if (negative) {
                return refuse(CANT_COME);
            }
            int kind = lexer.wordIn(Classes.NAMES);
            boolean creature = kind >= Classes.FIRST_CREATURE && kind < Classes.FIRST_ALONE_NONE;
            int word = lexer.wordIn("false true none");
            now.atomVar = lexer.variable();
            if (creature) {
                now.atomClass = kind;
            } else if (word == 0 || word == 1) {
                now.atomClass = Classes.TRUTH;
                now.atomNumber = word;
            }
            return acceptIf(creature || word != NONE || now.atomVar != NONE);
        }
    }

    /** Writes STEPS to OUT. */
    private static final class Speller {
        // No STEP that the grammar lets through has as many TOKENS or, spelled, as many bytes.
        private static final int TOKENS_MAX = 64;
        private static final int OUT_MAX = 256;

        private final Lexer lexer;
        private final byte[] out = new byte[OUT_MAX];
        int size;

        Speller(Lexer lexer) {
            this.lexer = lexer;
        }

        void write(int textSize, int place) {
            size = 0;
            lexer.open(textSize, TEXT_MAX, place);
            boolean close = true;
            boolean more = true;
            for (int n = 0; n < TOKENS_MAX && more; n++) {
                lexer.next();
                if (!close && !staysClose()) {
                    put(' ');
                }
                putToken();
                close = lexer.isSign('[') || lexer.isSign('-');
                more = !lexer.isSign(';') && lexer.kind != Lexer.END;
            }
        }

        private boolean staysClose() {
            return lexer.isSign('[') || lexer.isSign(']') || lexer.isSign(';');
        }

        private void putToken() {
            for (int at = lexer.spelledFrom(); at < lexer.to; at++) {
                put(lexer.byteAt(at));
            }
        }

        private void put(int b) {
            if (size < out.length) {
                out[size] = (byte) b;
                size++;
            }
        }

        int byteAt(int i) {
            return i >= 0 && i < size ? out[i] : 0;
        }
    }

    /**
     * A VALUE: of a NUMBER its KIND and itself, of a CREATURE or an ARRAY its CLASS and the number
     * that the store knows it by, of none NONE and 0. So two are the same where both parts are.
     */
    private static final class Value {
        int cls = NONE;
        long datum;

        void become(int cls, long datum) {
            this.cls = cls;
            this.datum = datum;
        }

        void becomeLike(Value other) {
            become(other.cls, other.datum);
        }

        boolean isNone() {
            return cls == NONE;
        }

        boolean isNumber() {
            return Classes.isNumber(cls);
        }

        boolean isArray() {
            return cls >= Classes.DIM;
        }

        boolean isLike(Value other) {
            return cls == other.cls && datum == other.datum;
        }

        /** The ARRAY's number in the store; of what is no ARRAY 0, which has no CELLS there. */
        int array() {
            return cls >= Classes.DIM ? (int) datum : 0;
        }
    }

    /** The CREATURES and ARRAYS of a run by numbers from 1 on, with all CELLS in one row. */
    private static final class Store {
        private static final int ARRAYS_MAX = 200;
        private static final int CELLS_MAX = 4000;
        private static final int ONE_MAX = 500;
        private static final int LOOKS_MAX = 20000;
        // A STEP makes one CREATURE at most; number 0 stands for none.
        private static final int THINGS_MAX = 1 + ARRAYS_MAX + STEPS_MAX;

        private final int[] classes = new int[THINGS_MAX];
        private final int[] starts = new int[THINGS_MAX];
        private final int[] lengths = new int[THINGS_MAX];
        private final long[] cells = new long[CELLS_MAX];
        private int things = 1;
        private int looked;
        boolean lookedTooOften;
        int arraysMade;
        int cellsMade;

        void empty() {
            things = 1;
            arraysMade = 0;
            cellsMade = 0;
        }

        boolean hasRoom(long arrays, long more) {
            return more <= ONE_MAX && arrays <= ARRAYS_MAX - arraysMade && more <= CELLS_MAX - cellsMade;
        }

        int makeCreature(int kind) {
            if (things >= THINGS_MAX) {
                return 0;
            }
            classes[things] = kind;
            starts[things] = 0;
            lengths[things] = 0;
            things++;
            return things - 1;
        }

        /** 0, and none is made, where there is no room. */
        int makeArray(int cls, int length) {
            if (length < 0 || length > CELLS_MAX - cellsMade || things >= THINGS_MAX) {
                return 0;
            }
            classes[things] = cls;
            starts[things] = cellsMade;
            lengths[things] = length;
            for (int i = 0; i < length; i++) {
                cells[cellsMade + i] = 0;
            }
            cellsMade += length;
            arraysMade++;
            things++;
            return things - 1;
        }

        int makeClone(int array) {
            if (!isThing(array)) {
                return 0;
            }
            int made = makeArray(classes[array], lengths[array]);
            if (made != 0) {
                System.arraycopy(cells, starts[array], cells, starts[made], lengths[array]);
            }
            return made;
        }

        private boolean isThing(int thing) {
            return thing > 0 && thing < things;
        }

        int lengthOf(int array) {
            return array > 0 && array < things ? lengths[array] : 0;
        }

        boolean hasCell(int array, int i) {
            return array > 0 && array < things && i >= 0 && i < lengths[array];
        }

        boolean hasCells(int array, int i, int count) {
            return i >= 0 && count >= 0 && i <= lengthOf(array) - count;
        }

        private long cellDatum(int array, int i) {
            if (array <= 0 || array >= things || i < 0 || i >= lengths[array]) {
                return 0;
            }
            return cells[starts[array] + i];
        }

        private int cellClass(int array, int i) {
            if (array <= 0 || array >= things || i < 0 || i >= lengths[array]) {
                return NONE;
            }
            int elements = classes[array] - Classes.DIM;
            if (elements < Classes.FIRST_CREATURE) {
                return elements;
            }
            int thing = (int) cells[starts[array] + i];
            return thing > 0 && thing < things ? classes[thing] : NONE;
        }

        void read(int array, int i, Value into) {
            into.become(cellClass(array, i), cellDatum(array, i));
        }

        /** Puts a CELL's VALUE in the place of the ARRAY; false if there is no such CELL. */
        boolean goInto(Value array, int i) {
            int number = array.array();
            if (!hasCell(number, i)) {
                return false;
            }
            array.become(cellClass(number, i), cellDatum(number, i));
            return true;
        }

        void write(int array, int i, long datum) {
            if (hasCell(array, i)) {
                cells[starts[array] + i] = datum;
            }
        }

        void swap(int array, int i, int j) {
            long kept = cellDatum(array, i);
            write(array, i, cellDatum(array, j));
            write(array, j, kept);
        }

        /** For two ARRAYS that are not unlike, with such CELLS: the REFUSAL. */
        int copyCells(int from, int i, int to, int j, int count) {
            if (!hasCells(from, i, count) || !hasCells(to, j, count) || !isThing(from) || !isThing(to)) {
                return INDEX;
            }
            if (from == to || Classes.ofNumbers(classes[from])) {
                System.arraycopy(cells, starts[from] + i, cells, starts[to] + j, count);
                return DONE;
            }
            int elements = Classes.elementsOf(classes[to]);
            for (int n = 0; n < count; n++) {
                if (Classes.writeRefusal(elements, cellClass(from, i + n)) != DONE) {
                    return STORE;
                }
                write(to, j + n, cellDatum(from, i + n));
            }
            return DONE;
        }

        /** No hash where lookedTooOften is set then. */
        int hashOf(Value v) {
            startLooking();
            return hashDown(v.cls, v.datum, 0);
        }

        /** No answer where lookedTooOften is set then. */
        boolean areEqual(Value v, Value w) {
            startLooking();
            return equalDown(v.cls, v.datum, w.cls, w.datum, 0);
        }

        private void startLooking() {
            looked = 0;
            lookedTooOften = false;
        }

        private boolean mayLook() {
            if (looked == LOOKS_MAX) {
                lookedTooOften = true;
                return false;
            }
            looked++;
            return true;
        }

        private int hashDown(int cls, long datum, int depth) {
            if (cls == NONE) {
                return 0;
            }
            if (Classes.isNumber(cls)) {
                return (int) (datum ^ datum >>> 32);
            }
            if (cls < Classes.DIM || depth > Classes.DIMS_MAX) {
                return cls;
            }
            int array = (int) datum;
            int length = lengthOf(array);
            int h = cls;
            for (int i = 0; i < length && mayLook(); i++) {
                h = 31 * h + hashDown(cellClass(array, i), cellDatum(array, i), depth + 1);
            }
            return h;
        }

        private boolean equalDown(int cls, long datum, int otherClass, long otherDatum, int depth) {
            if (cls != otherClass) {
                return false;
            }
            if (cls < Classes.DIM || depth > Classes.DIMS_MAX) {
                return datum == otherDatum;
            }
            int one = (int) datum;
            int other = (int) otherDatum;
            int length = lengthOf(one);
            if (length != lengthOf(other)) {
                return false;
            }
            for (int i = 0; i < length; i++) {
                if (!mayLook() || !equalDown(cellClass(one, i), cellDatum(one, i),
                        cellClass(other, i), cellDatum(other, i), depth + 1)) {
                    return false;
                }
            }
            return true;
        }
    }

    /** Runs a PROGRAM and keeps what came of it. */
    private static final class Runner {
        private static final int MARKS_MAX = 50;

        private final Store store = new Store();
        private final Value[] vars = new Value[VARS];
        private final Value[] marks = new Value[MARKS_MAX];
        private final int[] outcomes = new int[STEPS_MAX];
        private final int[] indexes = new int[Step.INDEXES_MAX];
        private final Value atom = new Value();
        private final Value other = new Value();
        // What look() and value() find, too: each walks there anew.
        final Value hand = new Value();
        private int marksMade;
        private int came;
        private int guesses;
        private int right;
        private int taken;

        Runner() {
            for (int v = 0; v < VARS; v++) {
                vars[v] = new Value();
            }
            for (int k = 0; k < MARKS_MAX; k++) {
                marks[k] = new Value();
            }
        }

        void forget() {
            store.empty();
            for (int v = 0; v < VARS; v++) {
                variable(v).become(NONE, 0);
            }
            for (int k = 0; k < STEPS_MAX; k++) {
                outcomes[k] = NONE;
            }
            marksMade = 0;
            came = 0;
            guesses = 0;
            right = 0;
            taken = 0;
        }

        int runAll(Program program) {
            forget();
            for (int k = 0; k < program.size && k < STEPS_MAX; k++) {
                Step s = program.stepAt(k);
                int refusal = perform(s);
                outcomes[k] = refusal;
                came++;
                if (s.guess != NONE) {
                    guesses++;
                    right += s.guess == refusal ? 1 : 0;
                }
                if (refusal != DONE) {
                    if (s.take != refusal) {
                        return 1 + k;
                    }
                    taken++;
                }
            }
            return 0;
        }

        int outcomeAt(int k) {
            return k >= 0 && k < STEPS_MAX ? outcomes[k] : NONE;
        }

        int tally(int what) {
            switch (what) {
                case 3: return marksMade;
                case 4: return store.arraysMade;
                case 5: return store.cellsMade;
                case 6: return came;
                case 7: return guesses;
                case 8: return right;
                case 9: return taken;
                default: return NONE;
            }
        }

        int marksKept() {
            return Math.min(marksMade, MARKS_MAX);
        }

        Value markAt(int k) {
            return k >= 0 && k < MARKS_MAX ? marks[k] : other;
        }

        /** Brings what is at the path to hand; false if there is no such one. */
        boolean walk(int v, int i, int j, int k) {
            if (v < 0 || v >= VARS) {
                return false;
            }
            hand.becomeLike(vars[v]);
            if (i == NONE) {
                return true;
            }
            if (!store.goInto(hand, i)) {
                return false;
            }
            if (j == NONE) {
                return true;
            }
            return store.goInto(hand, j) && (k == NONE || store.goInto(hand, k));
        }

        int handLength() {
            return hand.isArray() ? store.lengthOf(hand.array()) : NONE;
        }

        boolean holdSameThing(int v, int i, int w, int j) {
            if (!walk(v, i, NONE, NONE) || hand.isNone() || hand.isNumber()) {
                return false;
            }
            other.becomeLike(hand);
            return walk(w, j, NONE, NONE) && hand.isLike(other);
        }

        /** Does a STEP, or nothing of it: its REFUSAL. */
        private int perform(Step s) {
            int refusal = readIndexes(s);
            if (refusal != DONE) {
                return refusal;
            }
            readAtom(s);
            switch (s.act) {
                case Step.PLAIN: return tell(s, atom.cls, atom.datum);
                case Step.READ: case Step.WRITE: case Step.READ_AS: case Step.WRITE_AS:
                case Step.GET: case Step.PUT:
                    return usePlace(s);
                case Step.NEW: return makeArrays(s);
                case Step.CLONE: return cloneArray(s);
                case Step.CAST_TO: return castValue(s);
                case Step.LENGTH: return tellLength(s);
                case Step.HASH: return tellHash(s);
                case Step.EQUAL: return tellEqual(s);
                case Step.COPY: return copyCells(s);
                case Step.FILL: return fillCells(s);
                case Step.SWAP: return swapCells(s);
                case Step.TURN: return turnCells(s);
                case Step.MARK: return keepMark();
                default: return tellPlainly(s);
            }
        }

        private int usePlace(Step s) {
            if (s.act == Step.WRITE_AS && atom.cls != s.cls) {
                return UNLIKE;
            }
            int refusal = reach(s);
            if (refusal != DONE) {
                return refusal;
            }
            refusal = refusalAtCell(s, lastIndex(s));
            if (refusal != DONE) {
                return refusal;
            }
            switch (s.act) {
                case Step.READ: case Step.GET:
                    store.read(hand.array(), lastIndex(s), variable(s.target));
                    return DONE;
                case Step.READ_AS:
                    store.read(hand.array(), lastIndex(s), hand);
                    return tell(s, s.cls, Classes.widened(hand.datum, s.cls));
                default:
                    writeAtom(hand, lastIndex(s));
                    return DONE;
            }
        }

        /** The REFUSAL where the ARRAY at hand is used at a CELL, which it may not have. */
        private int refusalAtCell(Step s, int i) {
            int elements = Classes.elementsOf(hand.cls);
            boolean numbers = Classes.isNumber(elements);
            boolean told = s.act == Step.READ_AS || s.act == Step.WRITE_AS;
            if (told && !numbers || s.act == Step.PUT && numbers && !atom.isNumber()) {
                return UNLIKE;
            }
            if (!store.hasCell(hand.array(), i)) {
                return INDEX;
            }
            switch (s.act) {
                case Step.WRITE: return Classes.writeRefusal(elements, atom.cls);
                case Step.READ_AS: return Classes.widens(elements, s.cls) ? DONE : UNLIKE;
                case Step.WRITE_AS: return Classes.widens(s.cls, elements) ? DONE : UNLIKE;
                case Step.PUT: return Classes.writeRefusal(elements, atom.cls) == DONE ? DONE : UNLIKE;
                default: return DONE;
            }
        }

        private Value variable(int v) {
            return v >= 0 && v < VARS ? vars[v] : other;
        }

        private int tell(Step s, int cls, long datum) {
            variable(s.target).become(cls, datum);
            return DONE;
        }

        private int tellTruth(Step s, boolean truth) {
            return tell(s, Classes.TRUTH, truth ? 1 : 0);
        }

        private int readIndexes(Step s) {
            for (int n = 0; n < s.indexes && n < indexes.length; n++) {
                if (s.indexVar[n] == NONE) {
                    indexes[n] = s.indexNumber[n];
                } else {
                    Value v = variable(s.indexVar[n]);
                    if (v.isNone()) {
                        return MISSING;
                    }
                    if (v.cls == Classes.TRUTH || v.cls > Classes.INT) {
                        return UNLIKE;
                    }
                    indexes[n] = (int) v.datum;
                }
            }
            return DONE;
        }

        private void readAtom(Step s) {
            if (s.atomVar != NONE) {
                atom.becomeLike(variable(s.atomVar));
            } else if (s.atomClass >= Classes.FIRST_CREATURE) {
                atom.become(s.atomClass, store.makeCreature(s.atomClass));
            } else {
                atom.become(s.atomClass, s.atomNumber);
            }
        }

        private static int needArray(Value v) {
            if (v.isNone()) {
                return MISSING;
            }
            return v.isArray() ? DONE : UNLIKE;
        }

        /** Brings to hand what has the PLACE's last CELL, or should have it. */
        private int reach(Step s) {
            hand.becomeLike(variable(s.first));
            for (int n = 0; n + 1 < s.indexes && n < indexes.length; n++) {
                int refusal = needArray(hand);
                if (refusal != DONE) {
                    return refusal;
                }
                if (!store.goInto(hand, indexes[n])) {
                    return INDEX;
                }
            }
            return needArray(hand);
        }

        private int lastIndex(Step s) {
            int last = s.indexes - 1;
            return last >= 0 && last < indexes.length ? indexes[last] : NONE;
        }

        /** Writes the ATOM, which the ARRAY takes, as what the CELL holds. */
        private void writeAtom(Value array, int i) {
            store.write(array.array(), i, Classes.widened(atom.datum, Classes.elementsOf(array.cls)));
        }

        private int makeArrays(Step s) {
            long arrays = 0;
            long cells = 0;
            long level = 1;
            for (int n = 0; n < s.indexes && n < indexes.length; n++) {
                if (indexes[n] < 0) {
                    return SIZE;
                }
            }
            for (int n = 0; n < s.indexes && n < indexes.length; n++) {
                arrays += level;
                level *= indexes[n];
                cells += level;
                // Asked at each level, so that no product can grow beyond a long.
                if (!store.hasRoom(arrays, cells)) {
                    return LARGE;
                }
            }
            return tell(s, s.cls, makeLevel(s.cls, 0, s.indexes));
        }

        private int makeLevel(int cls, int level, int levels) {
            if (level >= levels || level >= indexes.length) {
                return 0;
            }
            int made = store.makeArray(cls, indexes[level]);
            if (level + 1 < levels) {
                for (int i = 0; i < store.lengthOf(made); i++) {
                    store.write(made, i, makeLevel(Classes.elementsOf(cls), level + 1, levels));
                }
            }
            return made;
        }

        private int cloneArray(Step s) {
            Value v = variable(s.first);
            int refusal = needArray(v);
            if (refusal != DONE) {
                return refusal;
            }
            if (!store.hasRoom(1, store.lengthOf(v.array()))) {
                return LARGE;
            }
            return tell(s, v.cls, store.makeClone(v.array()));
        }

        private int castValue(Step s) {
            Value v = variable(s.first);
            if (v.isNumber() && v.cls != s.cls) {
                return UNLIKE;
            }
            if (!v.isNone() && !Classes.isBelow(v.cls, s.cls)) {
                return CAST;
            }
            return tell(s, v.cls, v.datum);
        }

        private int tellPlainly(Step s) {
            Value v = variable(s.first);
            switch (s.act) {
                case Step.IS: return tellTruth(s, !v.isNone() && Classes.isBelow(v.cls, s.cls));
                case Step.SAME: return tellTruth(s, v.isLike(variable(s.second)));
                default: return tell(s, Classes.INT, v.cls);
            }
        }

        private int tellLength(Step s) {
            Value v = variable(s.first);
            int refusal = needArray(v);
            return refusal != DONE ? refusal : tell(s, Classes.INT, store.lengthOf(v.array()));
        }

        private int tellHash(Step s) {
            Value v = variable(s.first);
            int hash = store.hashOf(v);
            return store.lookedTooOften ? LARGE : tell(s, Classes.INT, hash);
        }

        private int tellEqual(Step s) {
            boolean equal = store.areEqual(variable(s.first), variable(s.second));
            return store.lookedTooOften ? LARGE : tellTruth(s, equal);
        }

        private int copyCells(Step s) {
            Value from = variable(s.first);
            Value to = variable(s.second);
            if (from.isNone() || to.isNone()) {
                return MISSING;
            }
            if (!from.isArray() || !to.isArray() || Classes.areUnlike(from.cls, to.cls)) {
                return UNLIKE;
            }
            return store.copyCells(from.array(), indexes[0], to.array(), indexes[1], indexes[2]);
        }

        private int fillCells(Step s) {
            Value v = variable(s.first);
            int refusal = needArray(v);
            int length = store.lengthOf(v.array());
            if (refusal == DONE && length > 0) {
                refusal = Classes.writeRefusal(Classes.elementsOf(v.cls), atom.cls);
            }
            if (refusal != DONE) {
                return refusal;
            }
            for (int i = 0; i < length; i++) {
                writeAtom(v, i);
            }
            return DONE;
        }

        private int swapCells(Step s) {
            Value v = variable(s.first);
            int refusal = needArray(v);
            if (refusal != DONE) {
                return refusal;
            }
            if (!store.hasCell(v.array(), indexes[0]) || !store.hasCell(v.array(), indexes[1])) {
                return INDEX;
            }
            store.swap(v.array(), indexes[0], indexes[1]);
            return DONE;
        }

        private int turnCells(Step s) {
            Value v = variable(s.first);
            int refusal = needArray(v);
            if (refusal != DONE) {
                return refusal;
            }
            int last = store.lengthOf(v.array()) - 1;
            for (int i = 0; i < last - i; i++) {
                store.swap(v.array(), i, last - i);
            }
            return DONE;
        }

        private int keepMark() {
            if (marksMade < MARKS_MAX) {
                marks[marksMade].becomeLike(atom);
            }
            marksMade++;
            return DONE;
        }
    }
}
