import java.nio.file.DirectoryStream;
import java.nio.file.Files;
import java.nio.file.Path;
import java.util.ArrayList;
import java.util.List;
import java.util.Map;
import java.util.TreeMap;
import java.util.regex.Matcher;
import java.util.regex.Pattern;

/**
 * The remarks above the boundary tests: each test has one, each says the document's own words, and together they
 * say every word of every promise and of the Terms.
 */
public final class QuotesTest {
    private static final Checks C = new Checks();
    private static final Pattern REMARK = Pattern.compile(" {4}// (Promise \\d+|Terms I{1,3}|What it is|The constants): \"(.*)\"");
    private static final Pattern TEST = Pattern.compile(" {4}static void (\\w+)\\(\\) \\{");

    public static void main(String[] args) throws Exception {
        Map<String, String> parts = parts(Files.readString(Path.of("../shared/DOC.md")));
        Map<String, List<String>> quotes = new TreeMap<>();
        int tests = 0;
        try (DirectoryStream<Path> files = Files.newDirectoryStream(Path.of("src/test/java"), "Bounds*Test.java")) {
            for (Path file : files) {
                tests += collect(file, quotes);
            }
        }
        quotes.forEach((part, said) -> said.forEach(quote ->
            C.due(part + " says \"" + quote + "\"", parts.getOrDefault(part, "").contains(quote) ? 1 : 0, 1)));
        int promises = 0;
        for (Map.Entry<String, String> part : parts.entrySet()) {
            promises += part.getKey().startsWith("Promise ") ? 1 : 0;
            if (!part.getKey().equals("What it is")) {
                C.due(part.getKey() + ", no remark says", unsaid(part.getValue(), quotes.get(part.getKey())), "");
            }
        }
        C.due("promises in the document", promises, 58);
        C.end("QuotesTest: " + tests + " boundary tests");
    }

    /** What the document says in each promise and each of the Terms. */
    private static Map<String, String> parts(String document) {
        Map<String, String> parts = new TreeMap<>();
        Matcher promise = Pattern.compile("(?s)## (Promise \\d+): [^\n]*\n\n`[^`]*`: (.*?)\\s*(?=\n## )").matcher(document);
        while (promise.find()) {
            parts.put(promise.group(1), promise.group(2));
        }
        Matcher term = Pattern.compile("(?sm)^(I{1,3})\\. (.*?)(?=^I{1,3}\\. |^The constants)").matcher(document);
        while (term.find()) {
            parts.put("Terms " + term.group(1), term.group(2).replaceAll("```(text)?", ""));
        }
        Matcher rest = Pattern.compile("(?s)## (What it is)\n(.*?)\n## |(The constants): (.*?)\n").matcher(document);
        while (rest.find()) {
            parts.put(rest.group(1) == null ? rest.group(3) : rest.group(1), rest.group(1) == null ? rest.group(4) : rest.group(2));
        }
        return parts;
    }

    /** Takes the remarks of one file; how many tests it has. */
    private static int collect(Path file, Map<String, List<String>> quotes) throws Exception {
        int tests = 0;
        boolean remarked = false;
        for (String line : Files.readAllLines(file)) {
            Matcher remark = REMARK.matcher(line);
            Matcher test = TEST.matcher(line);
            if (remark.matches()) {
                quotes.computeIfAbsent(remark.group(1), part -> new ArrayList<>()).add(remark.group(2));
                remarked = true;
            } else {
                if (test.matches()) {
                    tests++;
                    C.due(file.getFileName() + ": " + test.group(1) + " has a remark", remarked ? 1 : 0, 1);
                }
                remarked = false;
            }
        }
        C.due(file.getFileName() + " has tests", tests > 0 ? 1 : 0, 1);
        return tests;
    }

    private static String unsaid(String text, List<String> quotes) {
        boolean[] said = new boolean[text.length()];
        for (String quote : quotes == null ? new ArrayList<String>() : quotes) {
            for (int at = text.indexOf(quote); at >= 0; at = text.indexOf(quote, at + 1)) {
                java.util.Arrays.fill(said, at, at + quote.length(), true);
            }
        }
        StringBuilder rest = new StringBuilder();
        for (int i = 0; i < said.length; i++) {
            rest.append(said[i] ? ' ' : text.charAt(i));
        }
        return rest.toString().trim();
    }
}
