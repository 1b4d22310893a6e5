import java.lang.reflect.InvocationTargetException;
import java.lang.reflect.Method;
import java.lang.reflect.Modifier;
import java.util.ArrayList;
import java.util.Arrays;
import java.util.Comparator;
import java.util.List;
import java.util.NoSuchElementException;
import java.util.Random;

/** Any calls with any numbers: nothing is thrown but by breaks, refused calls change nothing, a run answers twice the same. */
public final class StormTest {
    private static final Checks C = new Checks();
    private static final int[] EDGES = {
        Integer.MIN_VALUE, Integer.MIN_VALUE + 1, -65537, -128, -12, -8, -3, -2, -1, 7, 8, 11, 12, 13, 31, 32, 33, 63,
        127, 128, 200, 201, 4095, 4096, 65536, 65537, Integer.MAX_VALUE - 1, Integer.MAX_VALUE,
    };
    private static final String[] TEXTS = {
        "complex points 7 size 3;facet abc;facet abd;facet bce;facet efg;facet cde;facet adg",
        "complex points 7 size 2;facet ab;facet ac;facet ad;facet ae;facet af;facet ag;facet bc;facet bd;facet be;facet bf;facet bg;facet cd",
        "complex points 7 size 5;facet abcde;facet bcdef;facet cdefg;facet acdef",
        "complex points 1 size 1;facet a",
        "complex points 5 size 4;facet abcd;facet abce;facet abde;facet acde;facet bcde",
        "complex points 4 size 2;facet ab;facet ab",
        "complex points 4 size 2;facet #",
    };

    private static final List<Method> CALLS = new ArrayList<>();

    public static void main(String[] args) throws Exception {
        for (Method method : ShellPeel.class.getDeclaredMethods()) {
            if (Modifier.isPublic(method.getModifiers())) {
                CALLS.add(method);
            }
        }
        CALLS.sort(Comparator.comparing(Method::getName));
        for (int seed = 0; seed < 400; seed++) {
            C.due("run " + seed + " answers twice the same", run(seed).equals(run(seed)) ? 1 : 0, 1);
        }
        C.end("StormTest");
    }

    private static String run(int seed) throws Exception {
        Random random = new Random(seed);
        ShellPeel x = new ShellPeel();
        StringBuilder said = new StringBuilder();
        for (int call = 0; call < 512; call++) {
            if (random.nextInt(40) == 0 || call == 20) {
                said.append(Checks.tell(x, TEXTS[random.nextInt(TEXTS.length)])).append(' ');
                continue;
            }
            Method method = CALLS.get(random.nextInt(CALLS.size()));
            Object[] numbers = new Object[method.getParameterCount()];
            for (int i = 0; i < numbers.length; i++) {
                numbers[i] = number(random);
            }
            String before = random.nextInt(8) == 0 ? state(x) : null;
            String answer = answer(x, method, numbers, seed);
            if (before != null && refuses(x, method, answer)) {
                C.due("run " + seed + ": " + method.getName() + Arrays.toString(numbers) + " refused changes nothing",
                    before.equals(state(x)) ? 1 : 0, 1);
            }
            said.append(answer).append(' ');
        }
        return said.toString();
    }

    private static int number(Random random) {
        int kind = random.nextInt(10);
        return kind < 6 ? random.nextInt(13) : kind < 8 ? random.nextInt(130) : kind == 8 ? random.nextInt() : EDGES[random.nextInt(EDGES.length)];
    }

    private static String answer(ShellPeel x, Method method, Object[] numbers, int seed) throws Exception {
        try {
            return String.valueOf(method.invoke(x, numbers));
        } catch (InvocationTargetException e) {
            boolean due = method.getName().equals("breaks") && e.getCause().getClass() == NoSuchElementException.class;
            C.due("run " + seed + ": " + method.getName() + Arrays.toString(numbers) + " throws " + e.getCause(), due ? 1 : 0, 1);
            return "throws";
        }
    }

    private static boolean refuses(ShellPeel x, Method method, String answer) {
        return answer.equals("throws") || answer.equals("-1") && !method.getName().equals("complex");
    }

    private static String state(ShellPeel x) {
        StringBuilder said = new StringBuilder();
        said.append(x.size()).append(' ').append(x.fault());
        for (int i = 0; i < 13; i++) {
            said.append(' ').append(x.about(i)).append(' ').append(x.facet(i)).append(' ').append(x.ordered(i));
        }
        return said.append(' ').append(x.shellings()).append(' ').append(x.first()).append(' ').append(x.unparted()).toString();
    }
}
