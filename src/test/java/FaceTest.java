import java.lang.reflect.Constructor;
import java.lang.reflect.Field;
import java.lang.reflect.Method;
import java.lang.reflect.Modifier;
import java.nio.file.Files;
import java.nio.file.Path;
import java.util.ArrayList;
import java.util.Arrays;
import java.util.List;
import java.util.TreeSet;
import java.util.regex.Matcher;
import java.util.regex.Pattern;

/** The public face as the document writes it, and rules of LANGUAGE.md that can be seen in the source. */
public final class FaceTest {
    private static final Checks C = new Checks();
    private static final String FACE = "feed5 complex1 fault0 where0 about1 facet1 within1 missing1 faces1 h1 euler0 rank1 round1 "
        + "dual1 dualRound1 near1 apart2 ordered1 joins1 restricted1 good0 sized1 spanning1 cycle1 mean0 cell1 fresh1 between1 "
        + "unparted0 rebuilt1 swaps0 leaps1 leap2 linear0 shellings0 shelled1 peelable0 goesOn1 stuck0 peeled1 link1 linkRound2 "
        + "linkShellings1 even0 obstruction0 fallsApart0 shed0 first0 add1 drop1 peel0 move2 lay0 turn2 breaks1 size0 trouble0";

    public static void main(String[] args) throws Exception {
        face();
        insides();
        source(Files.readString(Path.of("src/main/java/ShellPeel.java")));
        C.end("FaceTest");
    }

    private static void face() {
        TreeSet<String> due = new TreeSet<>(Arrays.asList(FACE.split(" ")));
        TreeSet<String> found = new TreeSet<>();
        for (Method method : ShellPeel.class.getDeclaredMethods()) {
            if (!Modifier.isPrivate(method.getModifiers()) && !method.isSynthetic()) {
                found.add(method.getName() + method.getParameterCount());
                boolean isMean = method.getName().equals("mean");
                C.due(method + " answers", method.getReturnType() == (isMean ? double.class : int.class) ? 1 : 0, 1);
                C.due(method + " is public alone", method.getModifiers(), Modifier.PUBLIC);
            }
        }
        C.due("methods " + found, found.equals(due) ? 1 : 0, 1);
        for (Field field : ShellPeel.class.getDeclaredFields()) {
            boolean isNone = field.getName().equals("NONE");
            C.due(field + " is hidden", Modifier.isPrivate(field.getModifiers()) ? 1 : 0, isNone ? 0 : 1);
        }
        C.due("NONE", ShellPeel.NONE, -1);
        Constructor<?>[] made = ShellPeel.class.getDeclaredConstructors();
        C.due("one constructor", made.length, 1);
        C.due("it is public", made[0].getModifiers(), Modifier.PUBLIC);
        C.due("the class is public and final", ShellPeel.class.getModifiers(), Modifier.PUBLIC | Modifier.FINAL);
    }

    private static void insides() {
        List<String> open = new ArrayList<>();
        for (Method method : ShellPeel.class.getDeclaredMethods()) {
            if (Modifier.isPublic(method.getModifiers())) {
                open.add(method.getName());
            }
        }
        Class<?>[] inside = ShellPeel.class.getDeclaredClasses();
        C.due("rule 11: some twelve classes", inside.length <= 11 ? 1 : 0, 1);
        for (Class<?> one : inside) {
            C.due("rule 1: " + one + " is private and static", Modifier.isStatic(one.getModifiers()) && Modifier.isPrivate(one.getModifiers()) ? 1 : 0, 1);
            int fields = 0;
            for (Field field : one.getDeclaredFields()) {
                fields += Modifier.isStatic(field.getModifiers()) ? 0 : 1;
            }
            C.due("rule 11: fields of " + one, fields <= 20 ? 1 : 0, 1);
            for (Method method : one.getDeclaredMethods()) {
                C.due("rule 1: the name of " + method, open.contains(method.getName()) ? 1 : 0, 0);
                C.due("rule 11: parameters of " + method, method.getParameterCount() <= 7 ? 1 : 0, 1);
            }
        }
    }

    private static void source(String text) {
        String code = text.replaceAll("(?s)/\\*.*?\\*/", "").replaceAll("//[^\n]*", "");
        String[] barred = {
            "->", "::", "\\bassert\\b", "\\bsynchronized\\b", "\\bfinally\\b", "\\btry\\b", "\\bcatch\\b", "\\bSystem\\b", "Exact\\b",
            "\\bObject\\b", "\\binstanceof\\b", "\\bpackage\\b", "\\bstatic\\s*\\{", "\\bRandom\\b", "\\bThread\\b", "\\bwhile\\s*\\(true",
        };
        for (String one : barred) {
            C.due("the source has " + one, Pattern.compile(one).matcher(code).find() ? 1 : 0, 0);
        }
        Matcher made = Pattern.compile("(.*)\\bnew (\\w+)").matcher(code);
        while (made.find()) {
            boolean row = made.group(1).contains("private final ") || made.group(1).contains(" final int[] ");
            boolean part = made.group(2).matches("Tape|Facets|Row|Halves|Orders|Shedding");
            boolean thrown = made.group(1).contains("throw ");
            boolean inConstructor = made.group(1).contains("int[] before");
            C.due("an object made by a call: " + made.group(), row || part || thrown || inConstructor ? 1 : 0, 1);
        }
        for (char sign : text.toCharArray()) {
            if (sign > 126) {
                C.due("a sign beyond 127", sign, 0);
            }
        }
        int lines = 0;
        for (String line : text.split("\n")) {
            lines = line.matches(" {4}( {4})?}") ? 0 : lines + 1;
            if (line.isBlank()) {
                lines = 0;
            }
            C.due("rule 11: a method's length at " + line, lines <= 60 ? 1 : 0, 1);
        }
    }
}
