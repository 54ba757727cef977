import java.io.IOException;
import java.lang.reflect.Field;
import java.lang.reflect.Method;
import java.lang.reflect.Modifier;
import java.nio.file.Files;
import java.nio.file.Path;
import java.util.ArrayList;
import java.util.Arrays;
import java.util.List;
import java.util.TreeSet;

/** The document's public face, and what of LANGUAGE.md can be seen from the class and its source. */
public final class FaceTest {
    private static final String[] FACE = {
        "boolean below(int,int)", "boolean end(int)", "boolean same(int,int,int,int)", "int compile()",
        "int copies(int,int,int)", "int count(int)", "int fault()", "int feed(int,int,int,int,int)",
        "int look(int,int,int,int,int)", "int mark(int,int)", "int name(int,int)", "int named()", "int octet(int)",
        "int outcome(int)", "int run()", "int spell(int)", "int step(int,int)", "int stores(int,int)",
        "long marked(int)", "long value(int,int,int,int)"};

    public static void main(String[] args) throws IOException {
        face();
        classes();
        source(Files.readString(Path.of(args.length > 0 ? args[0] : "src/main/java/ArrayTrainer.java")));
        Trial.finish("FaceTest");
    }

    private static String signature(Method m) {
        StringBuilder s = new StringBuilder(m.getReturnType().getName() + " " + m.getName() + "(");
        for (Class<?> c : m.getParameterTypes()) {
            s.append(s.charAt(s.length() - 1) == '(' ? "" : ",").append(c.getName());
        }
        return s.append(')').toString();
    }

    private static void face() {
        List<String> seen = new ArrayList<>();
        for (Method m : ArrayTrainer.class.getDeclaredMethods()) {
            if (!Modifier.isPrivate(m.getModifiers())) {
                seen.add(signature(m));
            }
        }
        seen.sort(null);
        Trial.dueText("the face", seen.toString(), Arrays.toString(FACE));
        for (Field f : ArrayTrainer.class.getDeclaredFields()) {
            boolean none = f.getName().equals("NONE") && f.getModifiers()
                == (Modifier.PUBLIC | Modifier.STATIC | Modifier.FINAL);
            Trial.due("field " + f.getName(), none || Modifier.isPrivate(f.getModifiers()), true);
        }
        Trial.due("public and final", ArrayTrainer.class.getModifiers(), Modifier.PUBLIC | Modifier.FINAL);
        Trial.due("constructors", ArrayTrainer.class.getDeclaredConstructors().length, 1);
        Trial.due("its parameters", ArrayTrainer.class.getDeclaredConstructors()[0].getParameterCount(), 0);
    }

    private static void classes() {
        TreeSet<String> face = new TreeSet<>();
        for (String s : FACE) {
            face.add(s.replaceAll(".* (.*)\\(.*", "$1"));
        }
        List<Class<?>> all = new ArrayList<>(List.of(ArrayTrainer.class.getDeclaredClasses()));
        Trial.due("some twelve classes", all.size() <= 11, true);
        all.add(ArrayTrainer.class);
        for (Class<?> c : all) {
            boolean outer = c == ArrayTrainer.class;
            Trial.due(c + " static", outer || Modifier.isStatic(c.getModifiers()), true);
            Trial.due(c + " not public", outer || !Modifier.isPublic(c.getModifiers()), true);
            int fields = 0;
            for (Field f : c.getDeclaredFields()) {
                boolean fixed = Modifier.isStatic(f.getModifiers());
                Trial.due(c + "." + f.getName() + " final if static",
                    !fixed || Modifier.isFinal(f.getModifiers()), true);
                fields += fixed ? 0 : 1;
            }
            Trial.due(c + " has some twenty fields", fields <= 20, true);
            for (Method m : c.getDeclaredMethods()) {
                Trial.due(m + " takes seven at most", m.getParameterCount() <= 7, true);
                boolean bears = face.contains(m.getName()) && !(outer && Modifier.isPublic(m.getModifiers()));
                Trial.due(m + " bears a name of the face", bears, false);
            }
        }
    }

    private static void source(String source) {
        String[] never = {"->", "::", "catch", "finally", "synchronized", "assert ", "static {", "System.out",
            "Math.random", "hashCode", "toString", "Exact(", "@", "Long.M", "Integer.M", "new int[][]", "String[]",
            "getMessage", "protected", "package ", "var ", "\" +", "+ \""};
        String bare = source.replaceAll("(?s)/\\*.*?\\*/", "").replaceAll("//.*", "");
        for (String word : never) {
            Trial.due("the source has " + word, bare.matches("(?s).*(?<!\\w)" + java.util.regex.Pattern.quote(word)
                + ".*"), false);
        }
        for (String line : bare.split("\n")) {
            boolean fine = !line.startsWith("import ") || line.equals("import java.util.NoSuchElementException;");
            Trial.due("import " + line, fine, true);
            Trial.due("a line's length: " + line, line.length() <= 120, true);
            boolean thrown = line.contains("throw new") && !line.contains("throw new NoSuchElementException();")
                && !line.contains("throw new IllegalStateException();");
            Trial.due("throw: " + line, thrown, false);
        }
        for (int i = 0; i < source.length(); i++) {
            Trial.due("sign at " + i, source.charAt(i) > 0 && source.charAt(i) < 128, true);
        }
        int length = 0;
        for (String line : source.split("\n")) {
            length++;
            if (line.matches("    }|        }|}")) {
                Trial.due("a method's lines up to " + line, length <= 62, true);
                length = 0;
            }
            if (line.isEmpty()) {
                length = 0;
            }
        }
    }
}
