import java.io.IOException;
import java.lang.reflect.InvocationTargetException;
import java.lang.reflect.Method;
import java.lang.reflect.Modifier;
import java.nio.file.Files;
import java.nio.file.Path;
import java.util.TreeSet;
import java.util.regex.Matcher;
import java.util.regex.Pattern;

/** Does the calls that README.md shows, on one trainer and in their order, and holds the answers against those told. */
public final class ReadmeTest {
    private static final Pattern GIVE = Pattern.compile("give\\(x, \"(.*)\"\\);");
    private static final Pattern CALL = Pattern.compile("x\\.(\\w+)\\(([-0-9, ]*)\\);\\s+// (\\S+): .*");

    public static void main(String[] args) throws IOException, IllegalAccessException {
        Path root = args.length > 0 ? Path.of(args[0]).toAbsolutePath().resolve("../../../..") : Path.of("");
        String text = Files.readString(root.resolve("README.md").normalize());
        TreeSet<String> shown = new TreeSet<>();
        Trial t = new Trial();
        for (String line : text.split("\n")) {
            Matcher give = GIVE.matcher(line);
            Matcher call = CALL.matcher(line);
            if (give.matches()) {
                t.tape(give.group(1));
            } else if (call.matches()) {
                shown.add(call.group(1));
                Trial.dueText("README: " + line, answer(t.x, call.group(1), call.group(2)), call.group(3));
            } else {
                Trial.due("README: an answer to " + line, line.startsWith("x."), false);
            }
        }
        for (Method m : ArrayTrainer.class.getDeclaredMethods()) {
            if (Modifier.isPublic(m.getModifiers())) {
                Trial.due("README tells of " + m.getName(), text.contains("`" + m.getName() + "`"), true);
            }
        }
        Trial.due("calls shown", shown.size() >= 15, true);
        Trial.finish("ReadmeTest");
    }

    private static String answer(ArrayTrainer x, String call, String with) throws IllegalAccessException {
        String[] parts = with.isEmpty() ? new String[0] : with.split(", ");
        Object[] arguments = new Object[parts.length];
        for (int n = 0; n < parts.length; n++) {
            arguments[n] = Integer.parseInt(parts[n]);
        }
        for (Method m : ArrayTrainer.class.getDeclaredMethods()) {
            if (m.getName().equals(call) && m.getParameterCount() == parts.length) {
                try {
                    return m.invoke(x, arguments).toString();
                } catch (InvocationTargetException e) {
                    return "throws " + e.getCause();
                }
            }
        }
        return "no such call";
    }
}
