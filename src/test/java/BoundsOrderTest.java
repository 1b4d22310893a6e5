/** Boundary cases of the calls that tell THE ORDER, and of the algebra's side (promises 19 to 35). */
public final class BoundsOrderTest {
    private static final Bounds B = new Bounds();
    private static final int NONE = Bounds.NONE;
    private static final int LEAST = Bounds.LEAST;
    private static final int MOST = Bounds.MOST;
    private static final int[] ANY = {LEAST, -1, 0, 1, 2, 16, MOST};

    public static void main(String[] args) throws Exception {
        B.runAll(BoundsOrderTest.class);
    }

    /** Places of the smallest and of the largest COMPLEX, and of one whose ORDER is no SHELLING. */
    private static void dueNoSuchPlace(String name, Bounds.NumberCall call) {
        B.bounds("point: " + name, Samples::point, call, 0, 0, NONE, 1);
        B.bounds("path: " + name, Samples::path, call, 0, 2, NONE, 1);
        B.bounds("full: " + name, Samples::full, call, 0, 11, NONE, 1);
        B.refusesAll("new: " + name, Samples::none, call, ANY, NONE, 1);
    }

    private static void dueNoSuchSize(String name, Bounds.NumberCall call) {
        B.bounds("point: " + name, Samples::point, call, 0, 1, NONE, 2);
        B.bounds("path: " + name, Samples::path, call, 0, 2, NONE, 2);
        B.bounds("broad: " + name, Samples::broad, call, 0, 5, NONE, 2);
        B.refusesAll("new: " + name, Samples::none, call, ANY, NONE, 1);
    }

    private static void dueNoSuchSet(String name, Bounds.NumberCall call) {
        B.bounds("point: " + name, Samples::point, call, 0, 1, NONE, 2);
        B.bounds("path: " + name, Samples::path, call, 0, 15, NONE, 2);
        B.bounds("full: " + name, Samples::full, call, 0, 127, NONE, 2);
        B.refusesAll("new: " + name, Samples::none, call, ANY, NONE, 1);
    }

    // Promise 19: "The FACET at a place of THE ORDER."
    // Terms II: "THE ORDER: FACETS in a row, at first by numbers."
    static void promise19AtFirstByNumbers() {
        B.row("full: ordered", Samples::full, (x, place) -> x.ordered(place), 0, 1, 2, 3, 4, 5, 6, 7, 8, 9, 10, 11);
        B.row("point: ordered", Samples::point, (x, place) -> x.ordered(place), 0);
        B.row("moved: ordered", Samples::moved, (x, place) -> x.ordered(place), 1, 2, 0);
    }

    // Promise 19: "NONE: 1."
    static void promise19NoSuchPlace() {
        dueNoSuchPlace("ordered", (x, place) -> x.ordered(place));
    }

    // Promise 20: "1 if it JOINS those ahead, 0."
    // Terms II: "(With none of them it JOINS.)"
    static void promise20TheFirstAlwaysJoins() {
        B.row("point: joins", Samples::point, (x, place) -> x.joins(place), 1);
        B.row("plane: joins", Samples::plane, (x, place) -> x.joins(place), 1, 0, 0, 0, 0, 0, 0);
        B.row("path: joins", Samples::path, (x, place) -> x.joins(place), 1, 0, 1);
        B.row("moved: joins", Samples::moved, (x, place) -> x.joins(place), 1, 1, 1);
    }

    // Promise 20: "1 if it JOINS those ahead, 0."
    // Terms II: "A FACET JOINS a set of others, if what it has in common with each of them lies in what it has in common with one of them by which it has all POINTS but one in common."
    static void promise20EachOfThemNotSomeOfThem() {
        B.row("no point in common at size 1: joins", Samples::dots, (x, place) -> x.joins(place), 1, 1, 1);
        B.row("nothing in common with a third one: joins", () -> Checks.made(5, 2, "ab cd bc"), (x, place) -> x.joins(place), 1, 0, 1);
        B.row("an edge and a point beside it: joins", () -> Checks.made(6, 3, "abc cde abe"), (x, place) -> x.joins(place), 1, 0, 0);
        B.row("the same, the point on the edge: joins", () -> Checks.made(6, 3, "abc cde abf"), (x, place) -> x.joins(place), 1, 0, 1);
        B.row("full: joins", Samples::full, (x, place) -> x.joins(place), 1, 1, 1, 1, 1, 1, 1, 1, 1, 1, 1, 1);
    }

    // Promise 20: "NONE: 1."
    static void promise20NoSuchPlace() {
        dueNoSuchPlace("joins", (x, place) -> x.joins(place));
    }

    // Promise 21: "RESTRICTION of it (bits)."
    // Terms II: "RESTRICTION of a FACET at its place: those of its POINTS without each of which alone it lies in one ahead."
    static void promise21FromNothingToAllOfIt() {
        B.row("point: restricted", Samples::point, (x, place) -> x.restricted(place), 0);
        B.row("sphere: restricted", Samples::sphere, (x, place) -> x.restricted(place), 0, 8, 12, 14);
        B.row("dots: restricted", Samples::dots, (x, place) -> x.restricted(place), 0, 2, 4);
        B.row("plane: restricted", Samples::plane, (x, place) -> x.restricted(place), 0, 0, 0, 0, 0, 0, 0);
        B.row("fives: restricted", Samples::fives, (x, place) -> x.restricted(place), 0, 32, 48, 56, 60, 62);
        B.row("full: restricted", Samples::full, (x, place) -> x.restricted(place), 0, 4, 8, 16, 32, 64, 6, 10, 18, 34, 66, 12);
    }

    // Promise 21: "NONE: 1."
    static void promise21NoSuchPlace() {
        dueNoSuchPlace("restricted", (x, place) -> x.restricted(place));
    }

    // Promise 22: "At how many places from the first on each JOINS."
    static void promise22FromTheFirstOnAlone() {
        B.tells("one facet: good()", Samples::point, x -> x.good(), 1);
        B.tells("none but the first: good()", Samples::plane, x -> x.good(), 1);
        B.tells("the last one joins, but behind one that doesn't: good()", Samples::path, x -> x.good(), 1);
        B.tells("all but the last: good()", () -> Checks.made(5, 2, "ab bc de"), x -> x.good(), 2);
        B.tells("all: good()", Samples::full, x -> x.good(), 12);
    }

    // Promise 22: "NONE: 1 (no COMPLEX)."
    static void promise22NoComplex() {
        B.refuses("new: good()", Samples::none, x -> x.good(), NONE, 1);
    }

    // Promise 23: "How many RESTRICTIONS have k POINTS (0 .. SIZE)."
    static void promise23FromEmptyToAll() {
        B.row("point: sized", Samples::point, (x, k) -> x.sized(k), 1, 0);
        B.row("dots: sized", Samples::dots, (x, k) -> x.sized(k), 1, 2);
        B.row("path: sized", Samples::path, (x, k) -> x.sized(k), 2, 0, 1);
        B.row("plane: sized", Samples::plane, (x, k) -> x.sized(k), 7, 0, 0, 0);
        B.row("fives: sized", Samples::fives, (x, k) -> x.sized(k), 1, 1, 1, 1, 1, 1);
        B.row("broad: sized", Samples::broad, (x, k) -> x.sized(k), 1, 2, 3, 4, 2, 0);
    }

    // Promise 23: "NONE: 1 (no COMPLEX); 2."
    static void promise23OutOfBounds() {
        dueNoSuchSize("sized", (x, k) -> x.sized(k));
    }

    // Promise 24: "The i-th place with a SPANNING FACET."
    // Terms II: "SPANNING: a FACET whose RESTRICTION is all of it."
    static void promise24FirstAndLast() {
        B.row("full: spanning", Samples::full, (x, i) -> x.spanning(i), 6, 7, 8, 9, 10, 11);
        B.row("dots: spanning", Samples::dots, (x, i) -> x.spanning(i), 1, 2);
        B.row("fives: spanning", Samples::fives, (x, i) -> x.spanning(i), 5);
        B.row("in no shelling: spanning", Samples::path, (x, i) -> x.spanning(i), 2);
    }

    // Promise 24: "NONE: 1."
    static void promise24NoSuchSpanningFacet() {
        B.bounds("full: spanning", Samples::full, (x, i) -> x.spanning(i), 0, 5, NONE, 1);
        B.bounds("path: spanning", Samples::path, (x, i) -> x.spanning(i), 0, 0, NONE, 1);
        B.refusesAll("none spans: spanning", Samples::broad, (x, i) -> x.spanning(i), ANY, NONE, 1);
        B.refusesAll("one facet: spanning", Samples::point, (x, i) -> x.spanning(i), ANY, NONE, 1);
        B.refusesAll("new: spanning", Samples::none, (x, i) -> x.spanning(i), ANY, NONE, 1);
    }

    // Promise 25: "CYCLE of the i-th SPANNING FACET (bits, of FACETS);"
    // Terms II: "A CYCLE of a SPANNING FACET: it and such FACETS that aren't SPANNING, so that each set of SIZE less 1 POINTS lies in an even number of them."
    static void promise25FirstAndLast() {
        B.row("full: cycle", Samples::full, (x, i) -> x.cycle(i), 67, 133, 265, 529, 1057, 2054);
        B.row("dots: cycle", Samples::dots, (x, i) -> x.cycle(i), 3, 5);
        B.row("all of them: cycle", Samples::fives, (x, i) -> x.cycle(i), 63);
        // c comes first, then a and b: facets are told by numbers, spanning ones by places.
        B.row("numbers, not places: cycle", BoundsOrderTest::turnedDots, (x, i) -> x.cycle(i), 5, 6);
        B.row("numbers, not places: spanning", BoundsOrderTest::turnedDots, (x, i) -> x.spanning(i), 1, 2);
    }

    private static ShellPeel turnedDots() {
        ShellPeel x = Samples.dots();
        x.move(2, 0);
        return x;
    }

    // Promise 25: "-2 THE ORDER is no SHELLING."
    static void promise25NoShelling() {
        B.row("path: cycle", Samples::path, (x, i) -> x.cycle(i), -2);
        B.row("a break behind it: cycle", () -> Checks.made(5, 2, "ab bc ac de"), (x, i) -> x.cycle(i), -2);
    }

    // Promise 25: "NONE: 1 (i)."
    static void promise25NoSuchSpanningFacet() {
        B.bounds("full: cycle", Samples::full, (x, i) -> x.cycle(i), 0, 5, NONE, 1);
        B.bounds("no shelling: cycle", Samples::path, (x, i) -> x.cycle(i), 0, 0, NONE, 1);
        B.refusesAll("none spans: cycle", Samples::broad, (x, i) -> x.cycle(i), ANY, NONE, 1);
        B.refusesAll("none spans, no shelling: cycle", Samples::bowtie, (x, i) -> x.cycle(i), ANY, NONE, 1);
        B.refusesAll("new: cycle", Samples::none, (x, i) -> x.cycle(i), ANY, NONE, 1);
    }

    // Promise 26: "RESTRICTIONS' POINTS together by FACETS."
    static void promise26FromNothingOn() {
        dueMean("one facet: mean()", Samples::point, 0.0, 0);
        dueMean("no restriction: mean()", Samples::plane, 0.0, 0);
        dueMean("a half: mean()", Samples::fives, 2.5, 0);
        dueMean("no whole number: mean()", Samples::path, 2.0 / 3, 0);
        dueMean("full: mean()", Samples::full, 17.0 / 12, 0);
        dueMean("broad: mean()", Samples::broad, 28.0 / 12, 0);
    }

    // Promise 26: "-1: 1 (no COMPLEX)."
    static void promise26NoComplex() {
        dueMean("new: mean()", Samples::none, -1.0, 1);
    }

    private static void dueMean(String name, Bounds.Maker maker, double due, int trouble) {
        B.checks.due(name, maker.make().mean(), due);
        B.refuses(name, maker, x -> x.mean() == due ? 1 : 0, 1, trouble);
    }

    // Promise 27: "The first place whose FACET a set lies in; -2 it is no FACE."
    static void promise27TheFirstTheLastAndNoFace() {
        B.tells("the empty set: cell(0)", Samples::full, x -> x.cell(0), 0);
        B.tells("the last place: cell(12)", Samples::full, x -> x.cell(12), 11);
        B.tells("of two the first: cell(64)", Samples::full, x -> x.cell(64), 5);
        B.tells("no face: cell(96)", Samples::full, x -> x.cell(96), -2);
        B.tells("all points, no face: cell(127)", Samples::full, x -> x.cell(127), -2);
        B.tells("all points, a face: cell(7)", Samples::lone, x -> x.cell(7), 0);
        B.tells("a point in no facet: cell(8)", Samples::idle, x -> x.cell(8), -2);
        B.tells("places, not numbers: cell(3)", Samples::moved, x -> x.cell(3), 2);
        B.tells("places, not numbers: cell(0)", Samples::moved, x -> x.cell(0), 0);
    }

    // Promise 27: "NONE: 1 (no COMPLEX); 2 (0 .. all POINTS)."
    static void promise27OutOfBounds() {
        dueNoSuchSet("cell", (x, set) -> x.cell(set));
    }

    // Promise 28: "How many FACES have that place as their cell()."
    static void promise28TheFirstAndTheLast() {
        B.row("point: fresh", Samples::point, (x, place) -> x.fresh(place), 2);
        B.row("full: fresh", Samples::full, (x, place) -> x.fresh(place), 4, 2, 2, 2, 2, 2, 1, 1, 1, 1, 1, 1);
        B.row("moved: fresh", Samples::moved, (x, place) -> x.fresh(place), 4, 2, 2);
        B.row("fives: fresh", Samples::fives, (x, place) -> x.fresh(place), 32, 16, 8, 4, 2, 1);
    }

    // Promise 28: "NONE: 1."
    static void promise28NoSuchPlace() {
        dueNoSuchPlace("fresh", (x, place) -> x.fresh(place));
    }

    // Promise 29: "At how many places a set lies in the FACET and has all of its RESTRICTION."
    static void promise29FromNoneToAll() {
        B.tells("at all places: between(0)", Samples::plane, x -> x.between(0), 7);
        B.tells("at three of them: between(64)", Samples::plane, x -> x.between(64), 3);
        B.tells("no face: between(127)", Samples::plane, x -> x.between(127), 0);
        B.tells("the empty set of a shelling: between(0)", Samples::full, x -> x.between(0), 1);
        B.tells("the last facet of a shelling: between(12)", Samples::full, x -> x.between(12), 1);
        B.tells("a point in no facet: between(8)", Samples::idle, x -> x.between(8), 0);
        B.tells("point: between(1)", Samples::point, x -> x.between(1), 1);
        for (int face : new int[] {1, 2, 4, 8, 3, 6, 12}) {
            B.tells("each face at one place at least: between(" + face + ")", Samples::path, x -> x.between(face), 1);
        }
    }

    // Promise 29: "NONE: 1 (no COMPLEX); 2 (0 .. all POINTS)."
    static void promise29OutOfBounds() {
        dueNoSuchSet("between", (x, set) -> x.between(set));
    }

    // Promise 30: "How many FACES there are of which between() isn't 1."
    static void promise30NoneInAShelling() {
        B.tells("point: unparted()", Samples::point, x -> x.unparted(), 0);
        B.tells("full: unparted()", Samples::full, x -> x.unparted(), 0);
        B.tells("moved: unparted()", Samples::moved, x -> x.unparted(), 0);
        B.tells("path: unparted()", Samples::path, x -> x.unparted(), 1);
        B.tells("bowtie: unparted()", Samples::bowtie, x -> x.unparted(), 2);
        B.tells("plane: unparted()", Samples::plane, x -> x.unparted(), 8);
        B.tells("sets that are no faces don't count: unparted()", Samples::idle, x -> x.unparted(), 0);
    }

    // Promise 30: "NONE: 1 (no COMPLEX)."
    static void promise30NoComplex() {
        B.refuses("new: unparted()", Samples::none, x -> x.unparted(), NONE, 1);
    }

    // Promise 31: "f of k as RESTRICTIONS tell it: the sum over i from 0 to k of RESTRICTIONS of i POINTS times the ways to choose k less i of SIZE less i."
    static void promise31FromNoPointToAll() {
        B.row("point: rebuilt", Samples::point, (x, k) -> x.rebuilt(k), 1, 1);
        B.row("broad: rebuilt", Samples::broad, (x, k) -> x.rebuilt(k), 1, 7, 21, 35, 32, 12);
        B.row("full: rebuilt", Samples::full, (x, k) -> x.rebuilt(k), 1, 7, 12);
        B.row("no shelling: rebuilt", Samples::path, (x, k) -> x.rebuilt(k), 2, 4, 3);
        B.row("plane: rebuilt", Samples::plane, (x, k) -> x.rebuilt(k), 7, 21, 21, 7);
    }

    // Promise 31: "NONE: 1 (no COMPLEX); 2 (0 .. SIZE)."
    static void promise31OutOfBounds() {
        dueNoSuchSize("rebuilt", (x, k) -> x.rebuilt(k));
    }

    // Promise 32: "Places (bits; all but the last one) of which the FACET and the next one, exchanged, leave THE ORDER a SHELLING."
    static void promise32NoneAndAllButTheLast() {
        B.tells("one facet: swaps()", Samples::point, x -> x.swaps(), 0);
        B.tells("none: swaps()", Samples::bowtie, x -> x.swaps(), 0);
        B.tells("all of twelve but the last: swaps()", Samples::full, x -> x.swaps(), 2047);
        B.tells("no shelling, but then: swaps()", Samples::path, x -> x.swaps(), 2);
        B.tells("a shelling, and then still: swaps()", Samples::moved, x -> x.swaps(), 1);
    }

    // Promise 32: "NONE: 1 (no COMPLEX)."
    static void promise32NoComplex() {
        B.refuses("new: swaps()", Samples::none, x -> x.swaps(), NONE, 1);
    }

    // Promise 33: "How many LEAST LEAPS there are at a place."
    // Terms II: "LEAST ones: those in which no other one lies (each set once)."
    // Terms II: "LEAPS at a place: what the FACET there has and one ahead has not, for each ahead;"
    static void promise33NoneAtTheFirstPlace() {
        B.row("point: leaps", Samples::point, (x, place) -> x.leaps(place), 0);
        B.row("path: leaps", Samples::path, (x, place) -> x.leaps(place), 0, 1, 2);
        B.row("each set once: leaps", Samples::dots, (x, place) -> x.leaps(place), 0, 1, 1);
        B.row("as many as points: leaps", Samples::fives, (x, place) -> x.leaps(place), 0, 1, 2, 3, 4, 5);
        B.row("the least point: leaps", () -> Checks.made(3, 2, "bc ab"), (x, place) -> x.leaps(place), 0, 1);
        B.row("the first one ahead takes another away: leaps", () -> Checks.made(5, 2, "ab cd ae"), (x, place) -> x.leaps(place), 0, 1, 1);
        B.row("the last one ahead takes another away: leaps", () -> Checks.made(5, 2, "cd ab ae"), (x, place) -> x.leaps(place), 0, 1, 1);
        B.tells("ten pairs: leaps(10)", Samples::fan, x -> x.leaps(10), 10);
        B.tells("one point takes four pairs away: leaps(11)", BoundsOrderTest::closedFan, x -> x.leaps(11), 7);
        B.tells("full: leaps(11)", Samples::full, x -> x.leaps(11), 2);
    }

    /** The fan with one facet more ahead of the last place, which is near the one there. */
    private static ShellPeel closedFan() {
        ShellPeel x = Samples.fan();
        x.add(47);
        x.move(11, 10);
        return x;
    }

    // Promise 33: "NONE: 1."
    static void promise33NoSuchPlace() {
        dueNoSuchPlace("leaps", (x, place) -> x.leaps(place));
    }

    // Promise 34: "The i-th of them, by bits rising."
    static void promise34ByBitsRising() {
        B.row("fan: leap(10, i)", Samples::fan, (x, i) -> x.leap(10, i), 3, 5, 6, 9, 10, 12, 17, 18, 20, 24);
        B.row("closed fan: leap(11, i)", BoundsOrderTest::closedFan, (x, i) -> x.leap(11, i), 3, 5, 6, 9, 10, 12, 16);
        B.row("fives: leap(5, i)", Samples::fives, (x, i) -> x.leap(5, i), 2, 4, 8, 16, 32);
        B.row("full: leap(11, i)", Samples::full, (x, i) -> x.leap(11, i), 4, 8);
        B.row("the least point: leap(1, i)", () -> Checks.made(3, 2, "bc ab"), (x, i) -> x.leap(1, i), 1);
        B.row("the greatest point: leap(1, i)", () -> Checks.made(7, 2, "ab ag"), (x, i) -> x.leap(1, i), 64);
        B.row("the first one ahead takes another away: leap(2, i)", () -> Checks.made(5, 2, "ab cd ae"), (x, i) -> x.leap(2, i), 16);
        B.row("all of it: leap(1, i)", Samples::path, (x, i) -> x.leap(1, i), 12);
    }

    // Promise 34: "NONE: 1."
    static void promise34NoSuchLeapOrPlace() {
        B.bounds("fan: leap(10, i)", Samples::fan, (x, i) -> x.leap(10, i), 0, 9, NONE, 1);
        B.bounds("full: leap(11, i)", Samples::full, (x, i) -> x.leap(11, i), 0, 1, NONE, 1);
        B.bounds("full: leap(place, 0)", Samples::full, (x, place) -> x.leap(place, 0), 1, 11, NONE, 1);
        B.refusesAll("none at the first place: leap(0, i)", Samples::full, (x, i) -> x.leap(0, i), ANY, NONE, 1);
        B.refusesAll("one facet: leap(0, i)", Samples::point, (x, i) -> x.leap(0, i), ANY, NONE, 1);
        B.refusesAll("new: leap(i, i)", Samples::none, (x, i) -> x.leap(i, i), ANY, NONE, 1);
    }

    // Promise 35: "1 if each LEAST LEAP at each place is one POINT, 0."
    static void promise35OnePlaceIsEnough() {
        B.tells("one facet: linear()", Samples::point, x -> x.linear(), 1);
        B.tells("full: linear()", Samples::full, x -> x.linear(), 1);
        B.tells("moved: linear()", Samples::moved, x -> x.linear(), 1);
        B.tells("the last place alone: linear()", () -> Checks.made(5, 2, "ab bc de"), x -> x.linear(), 0);
        B.tells("the second place alone: linear()", Samples::path, x -> x.linear(), 0);
        B.tells("pairs beside points: linear()", BoundsOrderTest::closedFan, x -> x.linear(), 0);
    }

    // Promise 35: "NONE: 1 (no COMPLEX)."
    static void promise35NoComplex() {
        B.refuses("new: linear()", Samples::none, x -> x.linear(), NONE, 1);
    }
}
