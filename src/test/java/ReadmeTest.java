import java.lang.reflect.Method;
import java.lang.reflect.Modifier;
import java.nio.file.Files;
import java.nio.file.Path;
import java.util.Arrays;
import java.util.HashMap;
import java.util.Map;
import java.util.TreeSet;
import java.util.regex.Matcher;
import java.util.regex.Pattern;

/** README.md: its example answers as it says, and its table of calls names each of them once. */
public final class ReadmeTest {
    private static final Checks C = new Checks();
    private static final Map<String, Method> CALLS = new HashMap<>();

    public static void main(String[] args) throws Exception {
        for (Method method : ShellPeel.class.getDeclaredMethods()) {
            if (Modifier.isPublic(method.getModifiers())) {
                CALLS.put(method.getName(), method);
            }
        }
        String text = Files.readString(Path.of("README.md"));
        example(part(text, "```java\n", "```"));
        table(part(text, "### The calls\n", "\n## "));
        C.end("ReadmeTest");
    }

    private static String part(String text, String from, String to) {
        int start = text.indexOf(from);
        int end = start < 0 ? -1 : text.indexOf(to, start + from.length());
        C.due("README.md has " + from.trim(), end > 0 ? 1 : 0, 1);
        return end > 0 ? text.substring(start + from.length(), end) : "";
    }

    private static void example(String code) throws Exception {
        ShellPeel x = new ShellPeel();
        Pattern call = Pattern.compile("x\\.(\\w+)\\((.*)\\); +// (-?\\d+)\\b.*");
        int made = 0;
        for (String line : code.split("\n")) {
            Matcher parts = call.matcher(line);
            if (!line.startsWith("x.")) {
                continue;
            }
            C.due("a call with its answer: " + line, parts.matches() ? 1 : 0, 1);
            if (parts.matches()) {
                C.due(line, (int) CALLS.get(parts.group(1)).invoke(x, numbers(parts.group(2))), Integer.parseInt(parts.group(3)));
                made++;
            }
        }
        C.due("the example has calls", made > 0 ? 1 : 0, 1);
    }

    private static Object[] numbers(String listed) {
        return listed.isEmpty() ? new Object[0] : Arrays.stream(listed.split(", ")).map(Integer::decode).toArray();
    }

    private static void table(String rows) {
        TreeSet<String> named = new TreeSet<>();
        Matcher name = Pattern.compile("`(\\w+)`").matcher(rows);
        while (name.find()) {
            C.due("named once: " + name.group(1), named.add(name.group(1)) ? 1 : 0, 1);
        }
        C.due("the calls named " + named, named.equals(new TreeSet<>(CALLS.keySet())) ? 1 : 0, 1);
    }
}
