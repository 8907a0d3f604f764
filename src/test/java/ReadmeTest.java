import java.io.IOException;
import java.lang.reflect.Method;
import java.lang.reflect.Modifier;
import java.nio.file.Files;
import java.nio.file.Path;
import java.util.TreeSet;
import java.util.regex.Matcher;
import java.util.regex.Pattern;

/** README.md: the answers that stand behind its lines are those of the class, and it names every call. */
final class ReadmeTest {
    private static final Check CHECK = new Check();
    private static final Pattern LINE = Pattern.compile("(?m)^x\\.(\\w+)\\((.*)\\); +// (\\S+)$");

    public static void main(String[] args) throws IOException, ReflectiveOperationException {
        String text = Files.readString(Path.of("README.md"));
        DiamondRows x = new DiamondRows();
        Matcher m = LINE.matcher(text);
        int lines = 0;
        while (m.find()) {
            lines++;
            CHECK.due(m.group(), answer(x, m.group(1), m.group(2)), told(m.group(3)));
        }
        CHECK.due("lines with an answer", lines, text.lines().filter(line -> line.startsWith("x.")).count());
        CHECK.holds("README.md has lines to run", lines > 30);
        TreeSet<String> left = new TreeSet<>();
        for (Method method : DiamondRows.class.getDeclaredMethods()) {
            boolean named = text.contains("`" + method.getName() + "(");
            if (Modifier.isPublic(method.getModifiers()) && !named) {
                left.add(method.getName());
            }
        }
        CHECK.holds("README.md tells of all calls but " + left, left.isEmpty());
        CHECK.holds("README.md tells how the tests are run", text.contains("\n    .ci/run\n"));
        CHECK.finish();
    }

    private static long answer(DiamondRows x, String name, String told) throws ReflectiveOperationException {
        String[] words = told.isEmpty() ? new String[0] : told.split(", ");
        Object[] arguments = new Object[words.length];
        Class<?>[] types = new Class<?>[words.length];
        for (int i = 0; i < words.length; i++) {
            boolean truth = words[i].equals("true") || words[i].equals("false");
            types[i] = truth ? boolean.class : int.class;
            arguments[i] = truth ? (Object) Boolean.valueOf(words[i]) : (Object) Integer.decode(words[i]);
        }
        return ((Number) DiamondRows.class.getMethod(name, types).invoke(x, arguments)).longValue();
    }

    private static long told(String word) throws ReflectiveOperationException {
        if (word.matches("[A-Z]+")) {
            return DiamondRows.class.getField(word).getInt(null);
        }
        return Long.parseLong(word);
    }
}
