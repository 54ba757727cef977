import java.nio.charset.StandardCharsets;
import java.util.NoSuchElementException;
import java.util.Random;

/** Every promise: any calls in any state throw what the document names or nothing, and change nothing if they throw. */
public final class WildTest {
    private static final int[] WILD = {-1, -2, 0, 1, 2, 3, 4, 5, 7, 8, 9, 15, 20, 24, 25, 26, 28, 35, 49, 50, 59, 79,
        80, 99, 100, 499, 500, 3000, 3100, Integer.MAX_VALUE, Integer.MIN_VALUE};
    private static final String[] TEXTS = {
        "a=new int[2][3];b=a[1];take index b[3]=5;mark b;mark 5;x=hash a;",
        "a=new beast[3];a[0]=cat;a[1]=lion;b=new cat[3];take store copy a[0] to b[0] for 3;a[2]=dog;"
            + "copy a[0] to b[0] for 3;",
        "a=new flier[500];fill a with duck;turn a;swap a[0][499];b=clone a;x=equal a b;",
        "x=a[0];", "guess none x=5;guess cast y=x;", "a=5", "a=is b flier;", "int[][]", "flier", " swimmer [ ] ", "$"};

    private final Random chance;
    private final ArrayTrainer x = new ArrayTrainer();

    private WildTest(long seed) {
        chance = new Random(seed);
    }

    public static void main(String[] args) {
        for (int seed = 0; seed < 3000; seed++) {
            WildTest w = new WildTest(seed);
            for (int n = 0; n < 512; n++) {
                w.call(seed);
            }
        }
        Trial.finish("WildTest");
    }

    private int wild() {
        int n = chance.nextInt(10);
        return n < 5 ? chance.nextInt(6) - 1 : n < 9 ? WILD[chance.nextInt(WILD.length)] : chance.nextInt();
    }

    private void feedText(String text) {
        byte[] b = text.getBytes(StandardCharsets.ISO_8859_1);
        int before = x.count(1);
        for (int at = 0; at < b.length; at += 20) {
            x.feed(Trial.word(b, at), Trial.word(b, at + 4), Trial.word(b, at + 8), Trial.word(b, at + 12),
                Trial.word(b, at + 16));
        }
        x.end(before + b.length);
    }

    private String counts() {
        StringBuilder s = new StringBuilder();
        for (int what = 0; what < 10; what++) {
            s.append(x.count(what)).append(' ');
        }
        return s.append(x.fault()).toString();
    }

    private void call(int seed) {
        int which = chance.nextInt(24);
        String before = counts();
        try {
            one(which);
        } catch (NoSuchElementException e) {
            Trial.due(seed + ": NoSuchElementException of call " + which, mayLack(which), true);
            Trial.dueText(seed + ": counts behind a throw", counts(), before);
        } catch (IllegalStateException e) {
            Trial.due(seed + ": IllegalStateException of call " + which, which == 8 || which == 23, true);
            Trial.due(seed + ": a PROGRAM", x.count(0), 0);
        } catch (RuntimeException e) {
            Trial.due(seed + ": call " + which + " throws " + e, true, false);
        }
    }

    private static boolean mayLack(int which) {
        return which == 5 || which == 6 || which == 7 || which == 9 || which == 11 || which == 14;
    }

    private void one(int which) {
        switch (which) {
            case 0: case 21: feedText(TEXTS[chance.nextInt(TEXTS.length)]); break;
            case 1: x.feed(wild(), chance.nextInt(), wild(), chance.nextInt(), wild()); break;
            case 2: x.end(chance.nextBoolean() ? 0 : wild()); break;
            case 3: case 22: x.compile(); break;
            case 4: x.fault(); break;
            case 5: x.step(wild(), wild()); break;
            case 6: x.spell(wild()); break;
            case 7: x.octet(wild()); break;
            case 8: case 23: x.run(); break;
            case 9: x.outcome(wild()); break;
            case 10: x.look(wild(), wild(), wild(), wild(), wild()); break;
            case 11: x.value(wild(), wild(), wild(), wild()); break;
            case 12: x.same(wild(), wild(), wild(), wild()); break;
            case 13: x.mark(wild(), wild()); break;
            case 14: x.marked(wild()); break;
            case 15: x.named(); break;
            case 16: x.name(wild(), wild()); break;
            case 17: x.below(wild(), wild()); break;
            case 18: x.stores(wild(), wild()); break;
            case 19: x.copies(wild(), wild(), wild()); break;
            default: x.count(wild()); break;
        }
    }
}
