import java.lang.reflect.Method;
import java.lang.reflect.Modifier;
import java.util.ArrayList;
import java.util.Comparator;
import java.util.List;

/**
 * Boundary cases, each on an object of its own beside a twin that is spared the call, so that what the call leaves
 * as it was can be seen. No object gets more calls than the document promises answers for.
 */
final class Bounds {
    static final int NONE = ShellPeel.NONE;
    static final int LEAST = Integer.MIN_VALUE;
    static final int MOST = Integer.MAX_VALUE;
    /** What breaks() is written as where it throws. */
    static final int THROWS = -99;

    private static final String BEGUN = "complex points 1 siz";
    private static final String REST = "e 1;facet a         ";

    interface Maker {
        ShellPeel make();
    }

    interface Call {
        long on(ShellPeel x);
    }

    interface NumberCall {
        long on(ShellPeel x, int number);
    }

    final Checks checks = new Checks();

    /** Runs every test of a class: its static methods without parameters, but for main's kind. */
    void runAll(Class<?> tests) throws Exception {
        List<Method> found = new ArrayList<>();
        for (Method method : tests.getDeclaredMethods()) {
            boolean test = Modifier.isStatic(method.getModifiers()) && !Modifier.isPrivate(method.getModifiers());
            if (test && method.getParameterCount() == 0 && !method.isSynthetic()) {
                found.add(method);
            }
        }
        found.sort(Comparator.comparing(Method::getName));
        for (Method method : found) {
            method.invoke(null);
        }
        checks.end(tests.getName() + ": " + found.size() + " tests");
    }

    void due(String what, long got, long want) {
        checks.due(what, got, want);
    }

    // ---- what a call leaves as it was

    /** TROUBLE is 4, where() 0 and fault() 1 then, and THE TAPE has twenty bytes: a call must change what it says it does. */
    static void unsettle(ShellPeel x) {
        x.complex(0);
        Checks.feed(x, BEGUN);
    }

    /** A call that isn't refused, and changes nothing but TROUBLE. */
    void tells(String name, Maker maker, Call call, long answer) {
        spares(name, maker, call, answer, 0);
    }

    /** A refused call: its answer, trouble() and where() then, and all else as it was. */
    void refuses(String name, Maker maker, Call call, long answer, int trouble) {
        spares(name, maker, call, answer, trouble);
    }

    private void spares(String name, Maker maker, Call call, long answer, int trouble) {
        ShellPeel x = maker.make();
        ShellPeel twin = maker.make();
        unsettle(x);
        unsettle(twin);
        due(name, call.on(x), answer);
        due(name + ": trouble() then", x.trouble(), trouble);
        due(name + ": where() then", x.where(), NONE);
        checks.due(name + ": the state then", state(x), state(twin));
        dueTape(name, x);
    }

    /** The bytes that unsettle() fed are still there. */
    private void dueTape(String name, ShellPeel x) {
        Checks.feed(x, REST);
        due(name + ": the tape then", x.complex(31), 1);
    }

    /** A call that tells no number of a refusal: TROUBLE and where() are left as they were, and all else is. */
    void leaves(String name, Maker maker, Call call, long answer) {
        ShellPeel x = maker.make();
        ShellPeel twin = maker.make();
        unsettle(x);
        unsettle(twin);
        due(name, call.on(x), answer);
        due(name + ": trouble() as it was", x.trouble(), 4);
        due(name + ": where() as it was", x.where(), 0);
        checks.due(name + ": the state then", state(x), state(twin));
        dueTape(name, x);
        ShellPeel y = maker.make();
        y.about(-1);
        due(name + ": once more", call.on(y), answer);
        due(name + ": trouble() 1 as it was", y.trouble(), 1);
        due(name + ": where() NONE as it was", y.where(), NONE);
    }

    // ---- numbers from 0 on, and at both ends

    /** Answers for 0, 1, .., none of them refused. */
    void row(String name, Maker maker, NumberCall call, int... due) {
        for (int number = 0; number < due.length; number++) {
            int asked = number;
            tells(name + " of " + number, maker, x -> call.on(x, asked), due[number]);
        }
    }

    /** The lowest and the highest number aren't refused; those beyond are. */
    void bounds(String name, Maker maker, NumberCall call, int low, int high, long answer, int trouble) {
        for (int number : new int[] {low, high}) {
            ShellPeel x = maker.make();
            unsettle(x);
            due(name + " of " + number + " is refused", call.on(x, number) == answer ? 1 : 0, 0);
            due(name + " of " + number + ": trouble() then", x.trouble(), 0);
            due(name + " of " + number + ": where() then", x.where(), NONE);
        }
        refusesAll(name, maker, call, beyond(low, high), answer, trouble);
    }

    void refusesAll(String name, Maker maker, NumberCall call, int[] numbers, long answer, int trouble) {
        for (int number : numbers) {
            refuses(name + " of " + number, maker, x -> call.on(x, number), answer, trouble);
        }
    }

    /** Numbers below and above, those too that a shift, a byte or a short would make good again. */
    static int[] beyond(int low, int high) {
        return new int[] {
            low - 1, high + 1, low - 32, low + 65536 + high, high + 65537, (low | 1 << 31), (high | 1 << 30), LEAST, MOST,
        };
    }

    // ---- what can be seen of an object

    /** FACETS, ORDER and answers that follow from them; not TROUBLE, where() and the bytes on THE TAPE. */
    static String state(ShellPeel x) {
        StringBuilder said = new StringBuilder();
        said.append(x.size()).append(' ').append(x.fault()).append(" about");
        for (int what = 0; what < 7; what++) {
            said.append(' ').append(x.about(what));
        }
        said.append(" facets");
        for (int i = 0; i < 13; i++) {
            said.append(' ').append(x.facet(i)).append(' ').append(x.ordered(i)).append(' ').append(x.restricted(i));
        }
        said.append(" told ").append(x.euler()).append(' ').append(x.good()).append(' ').append(x.unparted());
        said.append(' ').append(x.mean()).append(' ').append(x.swaps()).append(' ').append(x.linear());
        said.append(' ').append(x.shellings()).append(' ').append(x.linkShellings(0)).append(' ').append(x.shelled(1)).append(' ').append(x.peelable());
        said.append(' ').append(x.stuck()).append(' ').append(x.even()).append(' ').append(x.obstruction());
        said.append(' ').append(x.fallsApart()).append(' ').append(x.shed()).append(' ').append(x.first());
        return said.toString();
    }

    /** THE ORDER, as numbers behind one another. */
    static String order(ShellPeel x) {
        StringBuilder said = new StringBuilder();
        for (int place = 0; x.ordered(place) != NONE; place++) {
            said.append(place == 0 ? "" : " ").append(x.ordered(place));
        }
        return said.toString();
    }

    /** The FACETS by numbers, as words. */
    static String facets(ShellPeel x) {
        StringBuilder said = new StringBuilder();
        for (int i = 0; x.facet(i) != NONE; i++) {
            said.append(i == 0 ? "" : " ").append(Checks.word(x.facet(i)));
        }
        return said.toString();
    }

    void dueRows(String name, ShellPeel x, String facets, String order) {
        checks.due(name + ": the facets", facets(x), facets);
        checks.due(name + ": the order", order(x), order);
    }

    static int broken(ShellPeel x, int i) {
        try {
            return x.breaks(i);
        } catch (java.util.NoSuchElementException e) {
            return THROWS;
        }
    }
}
