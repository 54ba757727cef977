import java.math.BigInteger;
import java.util.ArrayList;
import java.util.List;
import java.util.Random;
import java.util.regex.Matcher;
import java.util.regex.Pattern;

/**
 * Promises 4 to 6 once more: texts, whose first FAULT is found here by patterns over the TOKENS, and not by a parser. At
 * first every TOKEN at every place of every kind of STEP, then texts by chance (always the same ones), mostly with a slip.
 */
public final class FaultTest {
    private static final String[] WORDS = ("guess take none missing index size store cast unlike large read write get "
        + "put new clone is same class hash equal copy to for fill with swap turn mark true false truth byte short "
        + "char int long float double beast cat lion dog bird duck bat flier swimmer").split(" ");
    private static final Pattern STRICT = Pattern.compile(step(false));
    private static final Pattern LOOSE = Pattern.compile(step(true));

    private static final Random CHANCE = new Random(5);

    public static void main(String[] args) {
        eachTokenAtEachPlace();
        byChance();
        Trial.finish("FaultTest");
    }

    private static void hold(String text, int[] due) {
        Trial t = new Trial();
        Trial.due("compile() of '" + text + "'", t.compile(text), due[0] == 0 ? due[1] : -1 - due[1]);
        Trial.due("fault() of '" + text + "'", t.x.fault(), due[0]);
    }

    /** Behind each beginning of each kind of STEP every TOKEN that there is, and what is none. */
    private static void eachTokenAtEachPlace() {
        String[] steps = {"a = b ;", "a = - 5 ;", "a = b [ 1 ] [ i ] [ - 3 ] ;", "a [ 1 ] [ i ] [ - 3 ] = - 5 ;",
            "a = read int b [ 1 ] ;", "write long a [ 1 ] = b ;", "a = get b [ 1 ] ;", "put a [ 1 ] = b ;",
            "a = new int [ 1 ] [ i ] [ - 3 ] ;", "a = new flier [ 1 ] [ ] [ ] ;", "a = clone b ;",
            "a = cast b cat [ ] [ ] [ ] ;", "a = is b flier [ ] [ ] [ ] ;", "a = same b c ;", "a = size b ;", "a = class b ;",
            "a = hash b ;", "a = equal b c ;", "copy a [ 1 ] to b [ i ] for - 3 ;", "fill a with true ;",
            "swap a [ 1 ] [ i ] ;", "turn a ;", "mark cat ;", "guess none take cast a = 5 ;", "guess large a = 5 ;"};
        String signs = "[ ] = ; - a z 5 5b 5l 128b 65536c 2147483648 9223372036854775808d zz zebra A $ . 5x a1 ";
        List<String> tokens = new ArrayList<>(List.of((signs + String.join(" ", WORDS)).split(" ")));
        tokens.add("");
        for (String step : steps) {
            String[] parts = step.split(" ");
            for (int n = 0; n <= parts.length; n++) {
                String ahead = String.join(" ", List.of(parts).subList(0, n));
                for (String token : tokens) {
                    String text = ahead + " " + token;
                    hold(text, fault(text));
                    hold("a=5; " + text + " ;", fault("a=5; " + text + " ;"));
                }
            }
        }
    }

    private static void byChance() {
        int[] kinds = new int[5];
        for (int n = 0; n < 40000; n++) {
            String text = text();
            int[] due = fault(text);
            kinds[due[0]]++;
            hold(text, due);
        }
        for (int kind = 0; kind < 5; kind++) {
            Trial.due("many of FAULT " + kind, kinds[kind] > 300, true);
        }
    }

    private static String code(String word) {
        for (int n = 0; n < WORDS.length; n++) {
            if (WORDS[n].equals(word)) {
                return String.valueOf((char) (0x200 + n));
            }
        }
        return "?";
    }

    private static String any(String words) {
        StringBuilder s = new StringBuilder("[");
        for (String w : words.split(" ")) {
            s.append(code(w));
        }
        return s.append(']').toString();
    }

    /** The grammar; loose: as many [ as one likes, and a NUMBER of any KIND for an int. */
    private static String step(boolean loose) {
        String refusal = any("missing index size store cast unlike large");
        String kind = any("truth byte short char int long float double");
        String creature = any("beast cat lion dog bird duck bat");
        String name = any("truth byte short char int long float double beast cat lion dog bird duck bat flier swimmer");
        String index = "(?:v|-?" + (loose ? "[NM]" : "N") + ")";
        String at = "\\[" + index + "\\]";
        String place = "v(?:" + at + ")" + (loose ? "+" : "{1,3}");
        String atom = "(?:v|-?[NM]|" + any("true false none") + "|" + creature + ")";
        String blank = "\\[\\]";
        String lengths = loose ? "(?:" + at + ")+(?:" + blank + ")*"
            : "(?:" + at + "(?:" + blank + "){0,2}|" + at + at + "(?:" + blank + ")?|" + at + at + at + ")";
        String cls = name + "(?:" + blank + ")" + (loose ? "*" : "{0,3}");
        String act = "(?:v=" + atom + "|v=" + place + "|" + place + "=" + atom
            + "|v=" + code("read") + kind + place + "|" + code("write") + kind + place + "=" + atom
            + "|v=" + code("get") + place + "|" + code("put") + place + "=" + atom
            + "|v=" + code("new") + name + lengths + "|v=" + any("clone size class hash") + "v"
            + "|v=" + any("cast is") + "v" + cls + "|v=" + any("same equal") + "vv"
            + "|" + code("copy") + "v" + at + code("to") + "v" + at + code("for") + index
            + "|" + code("fill") + "v" + code("with") + atom + "|" + code("swap") + "v" + at + at
            + "|" + code("turn") + "v|" + code("mark") + atom + ")";
        return "(?:" + code("guess") + "(?:" + code("none") + "|" + refusal + "))?(?:" + code("take") + refusal + ")?"
            + act + ";";
    }

    private static boolean begins(Pattern p, String s) {
        Matcher m = p.matcher(s);
        return m.matches() || m.hitEnd();
    }

    /** The FAULT's kind and place; 0 and the number of STEPS where there is none. */
    private static int[] fault(String text) {
        int at = 0;
        int steps = 0;
        int takes = 0;
        String now = "";
        int[] flier = null;
        for (;;) {
            while (at < text.length() && (text.charAt(at) == ' ' || text.charAt(at) == '\n')) {
                at++;
            }
            boolean over = text.length() > 3000 && at >= 3000;
            int end = at;
            while (end < text.length() && Character.toString(text.charAt(end)).matches("[a-z0-9]")) {
                end++;
            }
            end = end == at ? Math.min(at + 1, text.length()) : end;
            String token = over ? "" : text.substring(at, end);
            String code = over ? "!" : token.isEmpty() ? "$" : codeOf(token);
            if (flier != null && !code.equals("[")) {
                return flier;
            }
            flier = null;
            if (over || code.equals("!")) {
                return new int[] {1, over ? 3000 : at};
            }
            if (code.equals("$")) {
                return now.isEmpty() && steps > 0 ? new int[] {0, steps} : new int[] {2, text.length()};
            }
            boolean first = now.isEmpty();
            boolean negative = now.endsWith("-");
            now += code;
            if (!begins(LOOSE, now)) {
                return new int[] {2, at};
            }
            if (code.equals("N") || code.equals("M")) {
                if (!begins(STRICT, now) || !has(token, negative)) {
                    return new int[] {3, at};
                }
            }
            takes += token.equals("take") ? 1 : 0;
            if (!begins(STRICT, now) || first && steps == 100 || token.equals("take") && takes == 9) {
                return new int[] {4, at};
            }
            if (now.matches(".*" + any("cast is") + "v" + any("flier swimmer"))) {
                flier = new int[] {3, at};
            }
            if (code.equals(";")) {
                steps++;
                now = "";
            }
            at = end;
        }
    }

    private static String codeOf(String token) {
        if (token.matches("[a-z]")) {
            return "v";
        }
        if (token.matches("[a-z]{1,8}")) {
            return code(token);
        }
        if (token.matches("[0-9]{1,19}")) {
            return "N";
        }
        if (token.matches("[0-9]{1,19}[bsclfd]")) {
            return "M";
        }
        return token.matches("[\\[\\]=;-]") ? token : "!";
    }

    private static boolean has(String token, boolean negative) {
        BigInteger n = new BigInteger(token.replaceAll("[a-z]", ""));
        n = negative ? n.negate() : n;
        String letter = token.replaceAll("[0-9]", "");
        if (letter.equals("c")) {
            return n.signum() >= 0 && n.bitLength() <= 16;
        }
        int bits = letter.equals("b") ? 7 : letter.equals("s") ? 15 : letter.isEmpty() ? 31 : 63;
        return n.bitLength() <= bits;
    }

    private static String pick(String... of) {
        return of[CHANCE.nextInt(of.length)];
    }

    private static String index() {
        return pick("i", "0", "3", "- 1", "007", "2147483647", "- 2147483648");
    }

    private static String place() {
        StringBuilder s = new StringBuilder("a");
        for (int n = 1 + CHANCE.nextInt(CHANCE.nextInt(20) == 0 ? 4 : 3); n > 0; n--) {
            s.append(" [ ").append(index()).append(" ]");
        }
        return s.toString();
    }

    private static String number() {
        String digits = pick("0", "1", "127", "128", "129", "32767", "32768", "65535", "65536", "2147483647",
            "2147483648", "2147483649", "9223372036854775807", "9223372036854775808", "9999999999999999999",
            "0000000000000000001", "00000000000000000001");
        String letter = digits.length() < 4 ? pick("b", "s", "c", "", "l", "f", "d") : pick("", "l", "f", "d", "s", "c");
        if (digits.length() > 9 && CHANCE.nextInt(3) > 0) {
            letter = pick("l", "d");
        }
        return pick("- ", "", "") + digits + letter;
    }

    private static String atom() {
        return CHANCE.nextInt(3) == 0 && CHANCE.nextInt(3) == 0 ? number()
            : pick("b", "5", "- 5", "1c", "7d", "true", "false", "none", "cat", "duck");
    }

    private static String cls() {
        String name = pick("int", "truth", "cat", "flier", "swimmer", "bat");
        int dims = CHANCE.nextInt(CHANCE.nextInt(15) == 0 ? 5 : 4);
        dims = dims == 0 && name.length() > 4 && CHANCE.nextInt(5) > 0 ? 1 : dims;
        return name + " [ ]".repeat(dims);
    }

    private static String lengths() {
        StringBuilder s = new StringBuilder();
        int told = 1 + CHANCE.nextInt(3);
        for (int n = 0; n < told; n++) {
            s.append(" [ ").append(index()).append(" ]");
        }
        return s.append(" [ ]".repeat(CHANCE.nextInt(CHANCE.nextInt(20) == 0 ? 5 - told : 4 - told))).toString();
    }

    private static String stepText() {
        String refusal = pick("missing", "index", "size", "store", "cast", "unlike", "large");
        String lead = pick("", "", "guess none ", "guess " + refusal + " ") + pick("", "", "", "", "", "take " + refusal + " ");
        switch (CHANCE.nextInt(13)) {
            case 0: return lead + "a = " + atom() + " ;";
            case 1: return lead + "x = " + place() + " ;";
            case 2: return lead + place() + " = " + atom() + " ;";
            case 3: return lead + "x = read " + pick("int", "truth", "double") + " " + place() + " ;";
            case 4: return lead + "write " + pick("int", "char") + " " + place() + " = " + atom() + " ;";
            case 5: return lead + pick("x = get " + place(), "put " + place() + " = " + atom()) + " ;";
            case 6: return lead + "x = new " + pick("int", "cat", "flier") + lengths() + " ;";
            case 7: return lead + "x = " + pick("clone", "size", "class", "hash") + " y ;";
            case 8: return lead + "x = " + pick("cast", "is") + " y " + cls() + " ;";
            case 9: return lead + "x = " + pick("same", "equal") + " y z ;";
            case 10: return lead + "copy a [ " + index() + " ] to b [ " + index() + " ] for " + index() + " ;";
            case 11: return lead + pick("fill a with " + atom(), "swap a [ " + index() + " ] [ " + index() + " ]") + " ;";
            default: return lead + pick("turn a", "mark " + atom()) + " ;";
        }
    }

    private static String slip() {
        switch (CHANCE.nextInt(8)) {
            case 0: return pick("[", "]", "=", ";", "-");
            case 1: return number();
            case 2: return pick("$", "A", ".", "5x", "a1", "abcdefghi", "\t", "\u00e9", "\0", ",", "5bb", "Z");
            case 3: return pick("a", "zz", "abcdefgh");
            default: return WORDS[CHANCE.nextInt(WORDS.length)];
        }
    }

    private static String text() {
        List<String> tokens = new ArrayList<>();
        int steps = CHANCE.nextInt(30) == 0 ? 98 + CHANCE.nextInt(5) : 1 + CHANCE.nextInt(8);
        boolean shorts = steps > 90;
        for (int n = 0; n < steps; n++) {
            String s = shorts ? pick("a = 5 ;", "turn b ;", "mark c ;", "guess none a = 1 ;") : stepText();
            tokens.addAll(List.of(s.split(" ")));
        }
        if (CHANCE.nextInt(15) == 0) {
            for (int n = 0; n < 9; n++) {
                tokens.addAll(0, List.of("take", "index", "a", "=", "5", ";"));
            }
        }
        for (int slips = CHANCE.nextInt(4) == 0 ? 0 : CHANCE.nextInt(3); slips > 0; slips--) {
            int at = CHANCE.nextInt(tokens.size());
            switch (CHANCE.nextInt(4)) {
                case 0: tokens.add(at, slip()); break;
                case 1: tokens.set(at, slip()); break;
                case 2:
                    if (tokens.size() > 1) {
                        tokens.remove(at);
                    }
                    break;
                default:
                    tokens = new ArrayList<>(tokens.subList(0, at + 1));
                    break;
            }
        }
        return glued(tokens);
    }

    private static String glued(List<String> tokens) {
        StringBuilder s = new StringBuilder(pick("", "", " ", "\n "));
        boolean close = CHANCE.nextBoolean();
        for (String token : tokens) {
            boolean smalls = s.length() > 0 && Character.isLetterOrDigit(s.charAt(s.length() - 1))
                && Character.isLetterOrDigit(token.charAt(0));
            s.append(!close || smalls && CHANCE.nextInt(200) > 0 ? pick(" ", " ", "\n", "  ") : "").append(token);
        }
        s.append(pick("", "", " ", "\n"));
        if (CHANCE.nextInt(25) == 0 && s.length() < 2900) {
            int at = CHANCE.nextInt(s.length() + 1);
            while (at > 0 && at < s.length() && s.charAt(at - 1) != ' ' && CHANCE.nextInt(9) > 0) {
                at--;
            }
            s.insert(at, " ".repeat(2985 + CHANCE.nextInt(60) - CHANCE.nextInt(at + 1)));
        }
        return s.length() > 3100 ? s.substring(0, 3100) : s.toString();
    }
}
