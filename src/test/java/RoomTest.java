import java.io.IOException;
import java.lang.reflect.Array;
import java.lang.reflect.Field;
import java.lang.reflect.Modifier;
import java.nio.file.Files;
import java.nio.file.Path;
import java.util.ArrayDeque;
import java.util.IdentityHashMap;
import java.util.List;
import java.util.Map;

/**
 * The one room that all calls of a run live in: what a trainer holds is small, calls add nothing to it but the STEPS of
 * the longest PROGRAMS, and the source makes objects in no other place.
 */
public final class RoomTest {
    private static int objects;
    private static int parts;

    public static void main(String[] args) throws IOException, IllegalAccessException {
        holds();
        makes(Files.readString(Path.of(args.length > 0 ? args[0] : "src/main/java/ArrayTrainer.java")));
        Trial.finish("RoomTest");
    }

    /** Counts all that can be come to from a trainer, and its fields and elements. */
    private static void measure(ArrayTrainer x) throws IllegalAccessException {
        Map<Object, Boolean> seen = new IdentityHashMap<>();
        ArrayDeque<Object> open = new ArrayDeque<>();
        objects = 0;
        parts = 0;
        seen.put(x, true);
        open.add(x);
        while (!open.isEmpty()) {
            Object o = open.remove();
            objects++;
            if (o.getClass().isArray()) {
                int length = Array.getLength(o);
                parts += length;
                for (int i = 0; i < length && !o.getClass().getComponentType().isPrimitive(); i++) {
                    visit(Array.get(o, i), seen, open);
                }
                continue;
            }
            for (Field f : o.getClass().getDeclaredFields()) {
                if (!Modifier.isStatic(f.getModifiers())) {
                    parts++;
                    f.setAccessible(true);
                    if (!f.getType().isPrimitive()) {
                        visit(f.get(o), seen, open);
                    }
                }
            }
        }
    }

    private static void visit(Object o, Map<Object, Boolean> seen, ArrayDeque<Object> open) {
        if (o != null && seen.put(o, true) == null) {
            open.add(o);
        }
    }

    private static void holds() throws IllegalAccessException {
        Trial t = new Trial();
        measure(t.x);
        Trial.due("a new trainer's objects, " + objects, objects <= 150, true);
        Trial.due("its fields and elements, " + parts, parts <= 13000, true);
        for (int n = 0; n < 4; n++) {
            t.run("a=new int[4];b=clone a;c=cat;mark c;d=hash a;".repeat(20));
            t.compile("a=5;".repeat(101));
            t.named("int[][]");
            t.spell(99);
        }
        measure(t.x);
        int most = objects;
        int mostParts = parts;
        Trial.due("objects with two PROGRAMS of 100 STEPS, " + most, most <= 800, true);
        Trial.due("fields and elements then, " + mostParts, mostParts <= 18000, true);
        for (int n = 0; n < 100; n++) {
            t.run("a=new int[4];b=clone a;c=cat;mark c;d=hash a;".repeat(20));
            t.compile("a=5;".repeat(101));
            t.named("int[][]");
            t.spell(99);
            t.value(0, 0, -1, -1);
            t.x.same(0, 0, 1, 1);
        }
        measure(t.x);
        Trial.due("objects behind all calls", objects, most);
        Trial.due("fields and elements behind all calls", parts, mostParts);
    }

    // The lines of constructors that make objects, and the one that makes a STEP when it is first needed.
    private static final List<String> MAKING = List.of("byte[] fed = new byte[TAPE_MAX];",
        "byte[] kept = new byte[TEXT_MAX];", "program = new Program();", "spare = new Program();",
        "parser = new Parser(new Lexer(fed));", "speller = new Speller(new Lexer(kept));", "runner = new Runner();",
        "scratch = new Step();", "vars[v] = new Value();", "marks[k] = new Value();", "s = new Step();");

    private static void makes(String source) {
        for (String line : source.split("\n")) {
            if (line.matches(".*\\bnew \\w+ ?[\\[(].*")) {
                boolean field = line.matches(" {8}(private )?final [\\w\\[\\]]+ \\w+ = new .*");
                boolean known = MAKING.contains(line.trim()) || line.contains("throw new ");
                Trial.due("made: " + line, field || known, true);
            }
            Trial.due("a text or list made: " + line,
                line.matches(".*(StringBuilder|ArrayList|substring|toCharArray|copyOf|clone\\(\\)).*"), false);
        }
    }
}
