import java.lang.reflect.InvocationTargetException;
import java.lang.reflect.Method;
import java.nio.charset.StandardCharsets;
import java.util.Arrays;
import java.util.Random;

/**
 * All promises at once: trainers live 512 calls by chance (always the same ones), of texts that are fine, nearly fine
 * and long, and each answer is held against that of the second reading of the document.
 */
public final class ReadingTest {
    // Big letters stand for what grown() puts there: V is any VAR, R mostly one with an ARRAY, T mostly another one.
    private static final String[] ACTS = {"T=A", "T=P", "R=P", "P=A", "P=B", "P=U", "T=read K P", "T=read double P",
        "write K P=A", "write int P=-4", "write byte P=7b", "write long P=9007199254740993l", "T=get P", "put P=A",
        "put P=U", "R=new L", "R=new L", "R=new L", "R=clone R", "T=cast V C", "T=is V C", "T=same V V", "T=size V",
        "T=class V", "T=hash R", "T=equal R R", "copy R[I] to R[I] for I", "copy R[I] to R[I] for I",
        "fill R with A", "swap R[I][I]", "turn R", "mark A"};
    private static final String[] BITS = {" ", "\n", "[", "]", "=", ";", "-", ".", "a", "7", "b", "guess ",
        "take index ", "flier", " swimmer ", "none", "int", "[]", "[1]", "99999999999999999999", "128b", "\0",
        "\u00e9", "A", "\t"};
    private static final int[] LENGTHS = {0, 1, 2, 3, 4, 10, 22, 66, 199, 200, 499, 500, 501};
    private static final long[] NUMBERS = {0, 1, 2, 3, 127, 128, 129, 32767, 32768, 32769, 65535, 65536, 2147483647L,
        2147483648L, 2147483649L, 16777217, 9007199254740993L, 9223372036854775807L, Long.MIN_VALUE, 1L << 62};

    private final Random chance;
    private final long seed;
    private final ArrayTrainer x = new ArrayTrainer();
    private final Reading reading = new Reading();
    private int calls;

    private ReadingTest(long seed) {
        this.seed = seed;
        chance = new Random(seed);
    }

    public static void main(String[] args) {
        for (int seed = 0; seed < 1200; seed++) {
            new ReadingTest(seed).live();
        }
        Trial.finish("ReadingTest");
    }

    // ---- calls

    private static Object answer(Object of, String call, Object[] with) {
        for (Method m : of.getClass().getDeclaredMethods()) {
            if (m.getName().equals(call) && m.getParameterCount() == with.length) {
                return answer(of, m, with);
            }
        }
        return "no such call";
    }

    private static Object answer(Object of, Method m, Object[] with) {
        try {
            return m.invoke(of, with);
        } catch (InvocationTargetException e) {
            return "throws " + e.getCause().getClass().getName();
        } catch (IllegalAccessException e) {
            return "can't be called";
        }
    }

    private void ask(String call, Integer... with) {
        // What later calls answer is free.
        if (calls == 512) {
            return;
        }
        calls++;
        Object got = answer(x, call, with);
        Object want = answer(reading, call, with);
        Trial.dueText("life " + seed + ", call " + calls + ": " + call + Arrays.toString(with), got.toString(),
            want.toString());
    }

    private void live() {
        while (calls < 512) {
            int which = chance.nextInt(10);
            if (which < 4) {
                feedText(which == 0 ? near(program(3)) : which == 1 ? longText() : program(1 + chance.nextInt(40)));
                ask("compile");
                ask("fault");
                askCounts();
                ask("run");
                askCounts();
                askThings();
            } else if (which == 4) {
                String name = grow("C").replace("[", one("[", " [\n"));
                feedText(chance.nextInt(3) == 0 ? near(name) : name);
                ask(chance.nextInt(4) == 0 ? "compile" : "named");
            }
            for (int n = 0; n < 20; n++) {
                askAny();
            }
        }
    }

    private void feedText(String text) {
        if (chance.nextInt(8) > 0) {
            ask("end", 0);
        }
        int before = reading.count(1);
        byte[] b = text.getBytes(StandardCharsets.ISO_8859_1);
        for (int at = 0; at < b.length; at += 20) {
            ask("feed", Trial.word(b, at), Trial.word(b, at + 4), Trial.word(b, at + 8), Trial.word(b, at + 12),
                Trial.word(b, at + 16));
        }
        ask("end", before + b.length);
    }

    private void askCounts() {
        for (int what = 0; what <= 9; what++) {
            ask("count", what);
        }
    }

    private void askThings() {
        for (int n = 0; n < 40; n++) {
            Integer[] path = {chance.nextInt(6), chance.nextInt(4) - 1, chance.nextInt(4) - 1, chance.nextInt(3) - 1};
            ask("look", path[0], path[1], path[2], path[3], 0);
            ask("value", path);
            if (n % 4 == 0) {
                ask("look", path[0], path[1], path[2], path[3], 1);
                ask("same", path[0], path[1], chance.nextInt(6), chance.nextInt(3) - 1);
                ask("mark", n / 4, 0);
                ask("marked", n / 4);
            }
        }
    }

    private int near(int most) {
        return chance.nextInt(40) == 0 ? chance.nextInt() : chance.nextInt(most + 2) - 1;
    }

    private void askAny() {
        int steps = reading.count(0);
        switch (chance.nextInt(24)) {
            case 0: ask("feed", chance.nextInt(), near(9), near(9), near(9), near(9)); break;
            case 1: ask("end", near(reading.count(1))); break;
            case 2: ask(chance.nextInt(4) == 0 ? "compile" : chance.nextInt(4) == 0 ? "named" : "fault"); break;
            case 3: ask("run"); break;
            case 4: ask("step", near(steps), near(3)); break;
            case 5: ask("spell", near(steps)); break;
            case 6: case 7: ask("octet", near(reading.count(2))); break;
            case 8: case 9: ask("outcome", near(steps)); break;
            case 10: case 11: case 12: ask("look", near(9), near(3), near(3), near(3), near(1)); break;
            case 13: case 14: ask("value", near(9), near(3), near(3), near(3)); break;
            case 15: case 16: ask("same", near(9), near(3), near(9), near(3)); break;
            case 17: ask("mark", near(reading.count(3)), near(1)); break;
            case 18: ask("marked", near(reading.count(3))); break;
            case 19: ask("name", near(80), near(14)); break;
            case 20: ask("below", near(80), near(80)); break;
            case 21: ask("stores", near(80), near(80)); break;
            case 22: ask("copies", near(80), near(80), near(80)); break;
            default: ask("count", near(9)); break;
        }
    }

    // ---- texts

    private String one(String... of) {
        return of[chance.nextInt(of.length)];
    }

    private String oneOfKinds(int from, int to) {
        return Reading.KINDS.get(from + chance.nextInt(to - from));
    }

    private String grow(String form) {
        StringBuilder s = new StringBuilder();
        for (char c : form.toCharArray()) {
            s.append(Character.isUpperCase(c) ? grown(c) : String.valueOf(c));
        }
        return s.toString();
    }

    private String grown(char c) {
        switch (c) {
            case 'V': return String.valueOf((char) ('a' + chance.nextInt(chance.nextInt(20) == 0 ? 26 : 6)));
            case 'R': return chance.nextInt(9) == 0 ? grow("V") : one("a", "b", "c");
            case 'T': return chance.nextInt(9) == 0 ? grow("V") : one("d", "e", "f");
            case 'A': return grow(one("V", "V", "U", "B", "B", chance.nextInt(2) == 0 ? "none" : "true"));
            case 'U': return number();
            case 'B': return oneOfKinds(8, 15);
            case 'K': return oneOfKinds(0, 8);
            case 'P': return grow(one("R[I]", "R[I]", "R[I]", "R[I][I]", "R[I][I][I]"));
            case 'I':
                return chance.nextInt(6) == 0 ? grow("V") : chance.nextInt(9) == 0 ? number() : "" + chance.nextInt(4);
            case 'C': return oneOfKinds(0, 17) + "[]".repeat(chance.nextInt(4));
            case 'N': return chance.nextInt(5) == 0 ? "" + LENGTHS[chance.nextInt(LENGTHS.length)] : grow("I");
            default:
                return (chance.nextInt(2) == 0 ? oneOfKinds(0, 17) : one("int", "double", "beast", "flier", "bird"))
                    + grow(one("[N]", "[N]", "[N][N]", "[N][]", "[N][N][N]", "[N][N][]", "[N][][]"));
        }
    }

    private String number() {
        String letter = one("", "", "b", "s", "c", "l", "f", "d");
        long n = chance.nextInt(2) == 0 ? chance.nextInt(9) : NUMBERS[chance.nextInt(NUMBERS.length)];
        String digits = Long.toString(n).replace("-", "");
        String zeros = chance.nextInt(9) == 0 ? "0".repeat(Math.max(0, 19 - digits.length())) : "";
        return (n < 0 || chance.nextInt(6) == 0 ? "-" : "") + zeros + digits + letter;
    }

    /** A PROGRAM most of whose STEPS are done, since each is tried some times. */
    private String program(int steps) {
        StringBuilder text = new StringBuilder();
        int takes = 0;
        for (int k = 0; k < steps; k++) {
            String form = k < 3 ? "R=new L" : one(ACTS);
            String act = "";
            int refusal = 1;
            for (int n = 0; n < 8 && refusal != 0; n++) {
                act = grow(form) + one(";", ";", " ;\n");
                refusal = refusalBehind(text.toString(), act);
            }
            int guess = chance.nextInt(2) == 0 ? Math.max(0, refusal) : chance.nextInt(8);
            String head = chance.nextInt(5) > 0 ? "" : "guess " + Reading.REFUSALS.get(guess) + " ";
            if (refusal == 0) {
                text.append(head).append(act);
            } else if (refusal > 0 && takes < 8 && chance.nextInt(3) == 0) {
                takes++;
                text.append(head).append("take ").append(Reading.REFUSALS.get(refusal)).append(' ').append(act);
            } else if (chance.nextInt(20) == 0) {
                return text.append(head).append(act).append("a=5;").toString();
            }
        }
        return text.toString();
    }

    /** The REFUSAL of an ACT behind STEPS that are all done or taken, NONE if it has a FAULT. */
    private int refusalBehind(String text, String act) {
        Reading r = new Reading();
        byte[] b = (text + act).getBytes(StandardCharsets.ISO_8859_1);
        for (int at = 0; at < b.length; at += 20) {
            r.feed(Trial.word(b, at), Trial.word(b, at + 4), Trial.word(b, at + 8), Trial.word(b, at + 12),
                Trial.word(b, at + 16));
        }
        r.end(b.length);
        if (r.compile() < 0) {
            return ArrayTrainer.NONE;
        }
        r.run();
        return r.outcome(r.count(0) - 1);
    }

    /** The text with some bytes left out, put in or changed. */
    private String near(String text) {
        StringBuilder s = new StringBuilder(text);
        for (int n = chance.nextInt(3); n >= 0; n--) {
            int from = chance.nextInt(s.length() + 1);
            int to = chance.nextBoolean() ? from : Math.min(s.length(), from + 1 + chance.nextInt(3));
            s.replace(from, to, to > from && chance.nextBoolean() ? "" : one(BITS));
        }
        return s.toString();
    }

    /** Some 100 STEPS, or some 3000 bytes. */
    private String longText() {
        String step = one("a=5;", "mark a;", "turn b ;");
        int steps = chance.nextInt(4) == 0 ? 30 : 98 + chance.nextInt(3);
        String text = step.repeat(steps) + grow(one(ACTS)) + one(";", "");
        if (chance.nextBoolean()) {
            int cut = step.length() * chance.nextInt(30);
            int blanks = Math.max(0, 2990 + chance.nextInt(20) - text.length());
            text = text.substring(0, cut) + " ".repeat(blanks) + text.substring(cut);
        }
        return chance.nextInt(4) == 0 ? near(text) : text;
    }
}
