import java.lang.reflect.Method;
import java.lang.reflect.Modifier;
import java.nio.file.Files;
import java.nio.file.Path;
import java.util.HashMap;
import java.util.List;
import java.util.Map;
import java.util.regex.Matcher;
import java.util.regex.Pattern;

/** What README.md shows is what the class answers, and no call of the face is left out there. */
public final class ReadmeExample {
    private static final Tester T = new Tester();
    private static final Pattern CALL = Pattern.compile("x\\.(\\w+)\\((.*)\\); *// (-?\\d+):.*");

    public static void main(String[] args) throws Exception {
        // The source is at src/main/java below the folder that holds README.md.
        List<String> lines = Files.readAllLines(Path.of(args[0]).resolve("../../../../README.md").normalize());
        Map<String, Method> face = face();
        T.about("README.md");
        example(lines, face);
        String whole = String.join("\n", lines);
        for (String name : face.keySet()) {
            T.due(name + " is named", whole.contains("`" + name + "`"), true);
        }
        T.end();
    }

    private static Map<String, Method> face() {
        Map<String, Method> face = new HashMap<>();
        for (Method m : LastHouse.class.getDeclaredMethods()) {
            if (Modifier.isPublic(m.getModifiers())) {
                face.put(m.getName(), m);
            }
        }
        return face;
    }

    private static void example(List<String> lines, Map<String, Method> face) throws Exception {
        LastHouse x = new LastHouse();
        int shown = 0;
        for (String line : lines) {
            Matcher call = CALL.matcher(line);
            boolean found = call.matches();
            T.due(line + " tells its answer", found, line.startsWith("x."));
            if (found) {
                Object got = face.get(call.group(1)).invoke(x, numbers(call.group(2)));
                T.due(line, ((Number) got).longValue(), Long.parseLong(call.group(3)));
                shown++;
            }
        }
        T.due("calls are shown", shown > 5, true);
    }

    private static Object[] numbers(String list) {
        if (list.isEmpty()) {
            return new Object[0];
        }
        String[] words = list.split(", ");
        Object[] row = new Object[words.length];
        for (int i = 0; i < words.length; i++) {
            row[i] = Integer.decode(words[i]);
        }
        return row;
    }
}
