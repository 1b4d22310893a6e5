/** Boundary cases of the acts, and of breaks (promises 50 to 56). */
public final class BoundsActsTest {
    private static final Bounds B = new Bounds();
    private static final int NONE = Bounds.NONE;
    private static final int LEAST = Bounds.LEAST;
    private static final int MOST = Bounds.MOST;
    private static final int THROWS = Bounds.THROWS;
    private static final int[] ANY = {LEAST, -1, 0, 1, 2, 16, MOST};

    public static void main(String[] args) throws Exception {
        B.runAll(BoundsActsTest.class);
    }

    /** An act that isn't refused: its answer, TROUBLE and where() then, FACETS and ORDER; THE TAPE and the FAULT stay. */
    private static ShellPeel acts(String name, Bounds.Maker maker, Bounds.Call act, long answer, String facets, String order) {
        ShellPeel x = maker.make();
        // Told ahead of the act, so that what is kept from one call to another must be told anew.
        x.shellings();
        x.fallsApart();
        Bounds.unsettle(x);
        B.due(name, act.on(x), answer);
        B.due(name + ": trouble() then", x.trouble(), 0);
        B.due(name + ": where() then", x.where(), NONE);
        B.due(name + ": size() then", x.size(), 20);
        B.due(name + ": fault() then", x.fault(), 1);
        B.dueRows(name, x, facets, order);
        return x;
    }

    /** All that is told of it is what is told of a complex made so from the first on. */
    private static void dueAsMade(String name, ShellPeel x, int points, int size) {
        ShellPeel made = Checks.made(points, size, Bounds.facets(x));
        String[] order = Bounds.order(x).split(" ");
        for (int place = 0; place < order.length; place++) {
            int from = place;
            while (made.ordered(from) != Integer.parseInt(order[place])) {
                from++;
            }
            made.move(from, place);
        }
        Bounds.unsettle(made);
        B.checks.due(name + ": all that is told", Bounds.state(x), Bounds.state(made));
    }

    private static ShellPeel eleven() {
        return Checks.made(7, 2, "ab ac ad ae af ag bc bd be bf bg");
    }

    // Promise 50: "A FACET more (bits; the last one, last in THE ORDER): how many there are."
    static void promise50TheLastOneAndLast() {
        dueAsMade("path: add(9)", acts("path: add(9)", Samples::path, x -> x.add(9), 4, "ab cd bc ad", "0 1 2 3"), 4, 2);
        dueAsMade("moved: add(9)", acts("moved: add(9)", Samples::moved, x -> x.add(9), 4, "ab cd bc ad", "1 2 0 3"), 4, 2);
        dueAsMade("a point of no facet: add(12)", acts("idle: add(12)", Samples::idle, x -> x.add(12), 2, "ab cd", "0 1"), 4, 2);
        acts("beside one: add(64)", () -> Checks.made(7, 1, "a"), x -> x.add(64), 2, "a g", "0 1");
        acts("size 5: add(124)", () -> Checks.made(7, 5, "abcde"), x -> x.add(124), 2, "abcde cdefg", "0 1");
    }

    // Promise 50: "A FACET more (bits; the last one, last in THE ORDER): how many there are."
    static void promise50BehindOnesThatWent() {
        ShellPeel x = Samples.moved();
        x.drop(0);
        B.due("add(9)", x.add(9), 3);
        B.dueRows("add(9)", x, "cd bc ad", "0 1 2");
        ShellPeel y = Samples.full();
        y.move(0, 11);
        y.peel();
        y.peel();
        B.due("add(3)", y.add(3), 11);
        B.due("add(96)", y.add(96), 12);
        B.dueRows("add(96)", y, "ac ad ae af ag bc bd be bf bg ab fg", "0 1 2 3 4 5 6 7 8 9 10 11");
    }

    // Promise 50: "A FACET more (bits; the last one, last in THE ORDER): how many there are."
    static void promise50TheTwelfth() {
        ShellPeel x = acts("the twelfth: add(12)", BoundsActsTest::eleven, y -> y.add(12), 12,
            "ab ac ad ae af ag bc bd be bf bg cd", "0 1 2 3 4 5 6 7 8 9 10 11");
        dueAsMade("the twelfth", x, 7, 2);
        B.due("the thirteenth: add(96)", x.add(96), NONE);
        B.due("trouble() then", x.trouble(), 3);
    }

    // Promise 50: "NONE: 1 (no COMPLEX); 2 (not SIZE of POINTS); 5 (it is one); 3."
    static void promise50NoComplex() {
        B.refusesAll("new: add", Samples::none, (x, points) -> x.add(points), ANY, NONE, 1);
        B.refuses("new: add(3)", Samples::none, x -> x.add(3), NONE, 1);
    }

    // Promise 50: "NONE: 1 (no COMPLEX); 2 (not SIZE of POINTS); 5 (it is one); 3."
    static void promise50NotSizeOfPoints() {
        int[] numbers = {0, 1, 8, 7, 14, 15, 16, 17, 24, 48, 3 << 30, 1 << 30 | 1, LEAST | 1, LEAST, -1, -2, MOST, 65539};
        B.refusesAll("path: add", Samples::path, (x, points) -> x.add(points), numbers, NONE, 2);
        B.refusesAll("point: add", Samples::point, (x, points) -> x.add(points), new int[] {0, 2, 3, -1, LEAST}, NONE, 2);
        B.refusesAll("broad: add", Samples::broad, (x, points) -> x.add(points), new int[] {0, 15, 63, 127, 128 | 15, -1}, NONE, 2);
        B.refusesAll("full, ahead of no room: add", Samples::full, (x, points) -> x.add(points), new int[] {1, 7, 129, -1}, NONE, 2);
    }

    // Promise 50: "NONE: 1 (no COMPLEX); 2 (not SIZE of POINTS); 5 (it is one); 3."
    static void promise50ItIsOne() {
        B.refusesAll("moved: add", Samples::moved, (x, points) -> x.add(points), new int[] {3, 12, 6}, NONE, 5);
        B.refusesAll("full, ahead of no room: add", Samples::full, (x, points) -> x.add(points), new int[] {3, 66, 12}, NONE, 5);
        B.refuses("point: add(1)", Samples::point, x -> x.add(1), NONE, 5);
    }

    // Promise 50: "NONE: 1 (no COMPLEX); 2 (not SIZE of POINTS); 5 (it is one); 3."
    static void promise50NoRoom() {
        B.refuses("full: add(96)", Samples::full, x -> x.add(96), NONE, 3);
        B.refuses("full: add(20)", Samples::full, x -> x.add(20), NONE, 3);
        B.refuses("broad: add(124)", Samples::broad, x -> x.add(124), NONE, 3);
        ShellPeel x = Samples.full();
        x.add(96);
        B.due("one goes: drop(11)", x.drop(11), 11);
        B.due("and there is room: add(96)", x.add(96), 12);
        B.due("trouble() then", x.trouble(), 0);
    }

    // Promise 51: "A FACET goes (those behind it are one less; THE ORDER else as it was): how many there are."
    static void promise51TheFirstAMiddleOneAndTheLast() {
        dueAsMade("drop(0)", acts("square: drop(0)", Samples::square, x -> x.drop(0), 3, "bc cd ad", "0 1 2"), 4, 2);
        dueAsMade("drop(3)", acts("square: drop(3)", Samples::square, x -> x.drop(3), 3, "ab bc cd", "0 1 2"), 4, 2);
        dueAsMade("drop(1)", acts("moved: drop(1)", Samples::moved, x -> x.drop(1), 2, "ab bc", "1 0"), 4, 2);
        dueAsMade("drop(0)", acts("moved: drop(0)", Samples::moved, x -> x.drop(0), 2, "cd bc", "0 1"), 4, 2);
        dueAsMade("drop(2)", acts("moved: drop(2)", Samples::moved, x -> x.drop(2), 2, "ab cd", "1 0"), 4, 2);
        dueAsMade("what fell apart doesn't", acts("drop(1)", () -> Checks.made(4, 2, "ac ad bd"), x -> x.drop(1), 2, "ac bd", "0 1"), 4, 2);
        acts("down to one: drop(0)", BoundsActsTest::two, x -> x.drop(0), 1, "cde", "0");
        acts("down to one: drop(1)", BoundsActsTest::two, x -> x.drop(1), 1, "abc", "0");
        ShellPeel x = acts("full: drop(11)", Samples::full, y -> y.drop(11), 11,
            "ab ac ad ae af ag bc bd be bf bg", "0 1 2 3 4 5 6 7 8 9 10");
        B.due("it is no facet any more: facet(11)", x.facet(11), NONE);
        B.due("nor a face: within(12)", x.within(12), 0);
        dueAsMade("full: drop(0)", acts("full: drop(0)", Samples::full, y -> y.drop(0), 11,
            "ac ad ae af ag bc bd be bf bg cd", "0 1 2 3 4 5 6 7 8 9 10"), 7, 2);
    }

    private static ShellPeel two() {
        ShellPeel x = Samples.bowtie();
        x.move(1, 0);
        return x;
    }

    // Promise 51: "A FACET goes (those behind it are one less; THE ORDER else as it was): how many there are."
    static void promise51PointsStayThoughNoFacetHasThem() {
        ShellPeel x = acts("bowtie: drop(1)", Samples::bowtie, y -> y.drop(1), 1, "abc", "0");
        B.due("about(0)", x.about(0), 5);
        B.due("about(4)", x.about(4), 7);
        B.due("within(31)", x.within(31), 0);
        B.due("within(32)", x.within(32), NONE);
        B.due("missing(0)", x.missing(0), 8);
    }

    // Promise 51: "NONE: 1; 5 (it is the only one)."
    static void promise51NoSuchFacet() {
        B.bounds("path: drop", Samples::path, (x, i) -> x.drop(i), 0, 2, NONE, 1);
        B.bounds("full: drop", Samples::full, (x, i) -> x.drop(i), 0, 11, NONE, 1);
        B.refusesAll("the only one, another asked: drop", Samples::point, (x, i) -> x.drop(i), new int[] {-1, 1, LEAST, MOST}, NONE, 1);
        B.refusesAll("new: drop", Samples::none, (x, i) -> x.drop(i), ANY, NONE, 1);
    }

    // Promise 51: "NONE: 1; 5 (it is the only one)."
    static void promise51TheOnlyOne() {
        B.refuses("point: drop(0)", Samples::point, x -> x.drop(0), NONE, 5);
        B.refuses("lone: drop(0)", Samples::lone, x -> x.drop(0), NONE, 5);
        ShellPeel x = Samples.path();
        B.due("drop(0)", x.drop(0), 2);
        B.due("drop(0)", x.drop(0), 1);
        B.due("drop(0) of the only one", x.drop(0), NONE);
        B.due("trouble() then", x.trouble(), 5);
        B.dueRows("it stays", x, "bc", "0");
    }

    // Promise 52: "The FACET at the last place of THE ORDER goes likewise: its POINTS."
    static void promise52TheLastPlaceNotTheLastNumber() {
        dueAsMade("path: peel()", acts("path: peel()", Samples::path, x -> x.peel(), 6, "ab cd", "0 1"), 4, 2);
        dueAsMade("moved: peel()", acts("moved: peel()", Samples::moved, x -> x.peel(), 3, "cd bc", "0 1"), 4, 2);
        acts("down to one: peel()", BoundsActsTest::two, x -> x.peel(), 7, "cde", "0");
        acts("full: peel()", Samples::full, x -> x.peel(), 12, "ab ac ad ae af ag bc bd be bf bg", "0 1 2 3 4 5 6 7 8 9 10");
        ShellPeel x = Samples.full();
        x.move(0, 11);
        for (int left = 11; left >= 1; left--) {
            B.due("peel(), " + left + " are left", x.peel() > 0 ? 1 : 0, 1);
            B.due("about(2)", x.about(2), left);
        }
        B.dueRows("the first place's stays", x, "ac", "0");
    }

    // Promise 52: "NONE: 1 (no COMPLEX); 5."
    static void promise52NoComplexAndTheOnlyOne() {
        B.refuses("new: peel()", Samples::none, x -> x.peel(), NONE, 1);
        B.refuses("point: peel()", Samples::point, x -> x.peel(), NONE, 5);
        B.refuses("idle: peel()", Samples::idle, x -> x.peel(), NONE, 5);
    }

    // Promise 53: "The FACET at a place goes to another place of THE ORDER (those between by one): good() then."
    static void promise53FromEndToEnd() {
        dueAsMade("move(0, 3)", acts("square: move(0, 3)", Samples::square, x -> x.move(0, 3), 4, "ab bc cd ad", "1 2 3 0"), 4, 2);
        dueAsMade("move(3, 0)", acts("square: move(3, 0)", Samples::square, x -> x.move(3, 0), 4, "ab bc cd ad", "3 0 1 2"), 4, 2);
        dueAsMade("move(1, 3)", acts("square: move(1, 3)", Samples::square, x -> x.move(1, 3), 1, "ab bc cd ad", "0 2 3 1"), 4, 2);
        acts("square: move(2, 1)", Samples::square, x -> x.move(2, 1), 1, "ab bc cd ad", "0 2 1 3");
        acts("full: move(0, 11)", Samples::full, x -> x.move(0, 11), 12,
            "ab ac ad ae af ag bc bd be bf bg cd", "1 2 3 4 5 6 7 8 9 10 11 0");
        // ab is next to cd then, and has no point in common with it.
        acts("full: move(11, 0)", Samples::full, x -> x.move(11, 0), 1,
            "ab ac ad ae af ag bc bd be bf bg cd", "11 0 1 2 3 4 5 6 7 8 9 10");
        acts("a place, not a number: move(2, 0)", Samples::moved, x -> x.move(2, 0), 1, "ab cd bc", "0 1 2");
    }

    // Promise 53: "The FACET at a place goes to another place of THE ORDER (those between by one): good() then."
    static void promise53ToItsOwnPlace() {
        acts("move(1, 1)", Samples::square, x -> x.move(1, 1), 4, "ab bc cd ad", "0 1 2 3");
        acts("the only place: move(0, 0)", Samples::point, x -> x.move(0, 0), 1, "a", "0");
        acts("the last place: move(11, 11)", Samples::full, x -> x.move(11, 11), 12,
            "ab ac ad ae af ag bc bd be bf bg cd", "0 1 2 3 4 5 6 7 8 9 10 11");
    }

    // Promise 53: "NONE: 1."
    static void promise53NoSuchPlace() {
        B.bounds("path: move(from, 0)", Samples::path, (x, from) -> x.move(from, 0), 0, 2, NONE, 1);
        B.bounds("path: move(0, to)", Samples::path, (x, to) -> x.move(0, to), 0, 2, NONE, 1);
        B.bounds("full: move(from, 11)", Samples::full, (x, from) -> x.move(from, 11), 0, 11, NONE, 1);
        B.bounds("full: move(11, to)", Samples::full, (x, to) -> x.move(11, to), 0, 11, NONE, 1);
        B.refusesAll("path, the same twice: move(p, p)", Samples::path, (x, p) -> x.move(p, p), Bounds.beyond(0, 2), NONE, 1);
        B.refusesAll("new: move(p, p)", Samples::none, (x, p) -> x.move(p, p), ANY, NONE, 1);
    }

    // Promise 54: "THE ORDER is the least SHELLING: shellings()."
    static void promise54TheLeast() {
        dueAsMade("path: lay()", acts("path: lay()", Samples::path, x -> x.lay(), 4, "ab cd bc", "0 2 1"), 4, 2);
        acts("moved, another shelling: lay()", Samples::moved, x -> x.lay(), 4, "ab cd bc", "0 2 1");
        acts("one facet: lay()", Samples::point, x -> x.lay(), 1, "a", "0");
        ShellPeel x = Samples.full();
        x.move(0, 11);
        B.due("full: lay()", x.lay(), 191227392);
        B.checks.due("the order then", Bounds.order(x), "0 1 2 3 4 5 6 7 8 9 10 11");
        B.due("good() then", x.good(), 12);
    }

    // Promise 54: "NONE: 1 (no COMPLEX); 5 (there is none)."
    static void promise54NoneAndNoComplex() {
        B.refuses("new: lay()", Samples::none, x -> x.lay(), NONE, 1);
        B.refuses("the order stays: lay()", BoundsActsTest::two, x -> x.lay(), NONE, 5);
        B.refuses("snake: lay()", Samples::snake, x -> x.lay(), NONE, 5);
    }

    // Promise 55: "Two POINTS change names in all FACETS: in how many that changes something."
    static void promise55FromNoneToAll() {
        acts("all have both: turn(0, 2)", Samples::lone, x -> x.turn(0, 2), 0, "abc", "0");
        acts("none has either: turn(2, 3)", Samples::idle, x -> x.turn(2, 3), 0, "ab", "0");
        dueAsMade("turn(1, 3)", acts("one is in no facet: turn(1, 3)", Samples::idle, x -> x.turn(1, 3), 1, "ad", "0"), 4, 2);
        dueAsMade("turn(3, 0)", acts("moved: turn(3, 0)", Samples::moved, x -> x.turn(3, 0), 2, "bd ac bc", "1 2 0"), 4, 2);
        acts("moved: turn(0, 3)", Samples::moved, x -> x.turn(0, 3), 2, "bd ac bc", "1 2 0");
        dueAsMade("full", acts("the first and the last: turn(0, 6)", Samples::full, x -> x.turn(0, 6), 6,
            "bg cg dg eg fg ag bc bd be bf ab cd", "0 1 2 3 4 5 6 7 8 9 10 11"), 7, 2);
        acts("in all of them: turn(0, 1)", () -> Checks.made(3, 2, "ac bc"), x -> x.turn(0, 1), 2, "bc ac", "0 1");
    }

    // Promise 55: "NONE: 1 (unlike POINTS: 0, 1, ..)."
    static void promise55NoSuchPointsOrLikeOnes() {
        B.bounds("path: turn(p, 1)", Samples::path, (x, p) -> x.turn(p, 1), 0, 3, NONE, 1);
        B.bounds("path: turn(1, q)", Samples::path, (x, q) -> x.turn(1, q), 0, 3, NONE, 1);
        B.bounds("full: turn(p, 1)", Samples::full, (x, p) -> x.turn(p, 1), 0, 6, NONE, 1);
        B.bounds("full: turn(1, q)", Samples::full, (x, q) -> x.turn(1, q), 0, 6, NONE, 1);
        B.refusesAll("path, like ones: turn(p, p)", Samples::path, (x, p) -> x.turn(p, p), new int[] {0, 1, 3, 4, -1, LEAST, MOST}, NONE, 1);
        B.refusesAll("one point: turn(0, q)", Samples::point, (x, q) -> x.turn(0, q), new int[] {0, 1, -1, 32}, NONE, 1);
        B.refuses("new: turn(0, 1)", Samples::none, x -> x.turn(0, 1), NONE, 1);
        B.refusesAll("new: turn(p, 0)", Samples::none, (x, p) -> x.turn(p, 0), ANY, NONE, 1);
    }

    // Promise 56: "The i-th place, from the first on, at which the FACET doesn't JOIN."
    static void promise56FirstAndLast() {
        for (int i = 0; i < 6; i++) {
            int asked = i;
            B.leaves("plane: breaks(" + i + ")", Samples::plane, x -> Bounds.broken(x, asked), i + 1);
        }
        B.leaves("path: breaks(0)", Samples::path, x -> Bounds.broken(x, 0), 1);
        B.leaves("the last place: breaks(0)", () -> Checks.made(5, 2, "ab bc de"), x -> Bounds.broken(x, 0), 2);
        B.leaves("places, not numbers: breaks(0)", BoundsActsTest::two, x -> Bounds.broken(x, 0), 1);
    }

    // Promise 56: "NoSuchElementException if there is none such."
    static void promise56NoneSuch() {
        for (int i : new int[] {-1, 6, 7, 12, -32, 65536, LEAST, MOST}) {
            B.leaves("plane: breaks(" + i + ")", Samples::plane, x -> Bounds.broken(x, i), THROWS);
        }
        for (int i : ANY) {
            B.leaves("a shelling: breaks(" + i + ")", Samples::full, x -> Bounds.broken(x, i), THROWS);
            B.leaves("one facet: breaks(" + i + ")", Samples::point, x -> Bounds.broken(x, i), THROWS);
            B.leaves("new: breaks(" + i + ")", Samples::none, x -> Bounds.broken(x, i), THROWS);
        }
        B.leaves("path: breaks(1)", Samples::path, x -> Bounds.broken(x, 1), THROWS);
    }

    // Promise 56: "NoSuchElementException if there is none such."
    static void promise56ThatExceptionAndNoOther() {
        for (Bounds.Maker maker : new Bounds.Maker[] {Samples::none, Samples::path, Samples::full}) {
            for (int i : new int[] {LEAST, -1, 1, 99, MOST}) {
                Class<?> thrown = null;
                try {
                    maker.make().breaks(i);
                } catch (RuntimeException e) {
                    thrown = e.getClass();
                }
                B.due("breaks(" + i + ") throws " + thrown, thrown == java.util.NoSuchElementException.class ? 1 : 0, 1);
            }
        }
    }
}
