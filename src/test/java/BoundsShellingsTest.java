/** Boundary cases of all orders, links and shedding (promises 36 to 49). */
public final class BoundsShellingsTest {
    private static final Bounds B = new Bounds();
    private static final int NONE = Bounds.NONE;
    private static final int LEAST = Bounds.LEAST;
    private static final int MOST = Bounds.MOST;
    private static final int[] ANY = {LEAST, -1, 0, 1, 2, 16, MOST};

    public static void main(String[] args) throws Exception {
        B.runAll(BoundsShellingsTest.class);
    }

    /** Two edges that have no point in common. */
    private static ShellPeel split() {
        return Checks.made(4, 2, "ab cd");
    }

    /** All sets out of bounds, ahead of those that are no FACE. */
    private static void dueNoSuchSet(String name, Bounds.NumberCall call) {
        B.bounds("point: " + name, Samples::point, call, 0, 1, NONE, 2);
        B.bounds("lone: " + name, Samples::lone, call, 0, 7, NONE, 2);
        B.refusesAll("full: " + name, Samples::full, call, Bounds.beyond(0, 127), NONE, 2);
        B.refusesAll("path: " + name, Samples::path, call, Bounds.beyond(0, 15), NONE, 2);
        B.refusesAll("new: " + name, Samples::none, call, ANY, NONE, 1);
    }

    private static void dueNoFace(String name, Bounds.NumberCall call) {
        B.refusesAll("path: " + name, Samples::path, call, new int[] {5, 9, 10, 7, 15}, NONE, 5);
        B.refusesAll("full: " + name, Samples::full, call, new int[] {96, 7, 127}, NONE, 5);
        B.refusesAll("a point in no facet: " + name, Samples::idle, call, new int[] {4, 8, 12, 15}, NONE, 5);
    }

    // Promise 36: "How many ORDERS of all FACETS are SHELLINGS."
    // Terms II: "A SHELLING: an ORDER in which each FACET JOINS those ahead."
    static void promise36FromNoneToVeryMany() {
        B.tells("one facet: shellings()", Samples::point, x -> x.shellings(), 1);
        B.tells("none: shellings()", Samples::bowtie, x -> x.shellings(), 0);
        B.tells("each row: shellings()", Samples::dots, x -> x.shellings(), 6);
        B.tells("each row of six: shellings()", Samples::fives, x -> x.shellings(), 720);
        B.tells("full: shellings()", Samples::full, x -> x.shellings(), 191227392);
        B.tells("broad: shellings()", Samples::broad, x -> x.shellings(), 70939872);
        B.tells("whatever the order is: shellings()", Samples::moved, x -> x.shellings(), 4);
    }

    // Promise 36: "NONE: 1 (no COMPLEX)."
    static void promise36NoComplex() {
        B.refuses("new: shellings()", Samples::none, x -> x.shellings(), NONE, 1);
    }

    // Promise 37: "The FACET at a place of the SHELLING that is the least row by numbers; -2 there is none."
    static void promise37TheLeastOrNone() {
        B.row("one facet: shelled", Samples::point, (x, place) -> x.shelled(place), 0);
        B.row("path: shelled", Samples::path, (x, place) -> x.shelled(place), 0, 2, 1);
        B.row("by numbers, whatever the order is: shelled", Samples::moved, (x, place) -> x.shelled(place), 0, 2, 1);
        B.row("full: shelled", Samples::full, (x, place) -> x.shelled(place), 0, 1, 2, 3, 4, 5, 6, 7, 8, 9, 10, 11);
        B.row("none: shelled", Samples::bowtie, (x, place) -> x.shelled(place), -2, -2);
        B.row("none, though many join: shelled", Samples::snake, (x, place) -> x.shelled(place), -2, -2, -2, -2, -2, -2, -2, -2, -2, -2);
    }

    // Promise 37: "NONE: 1 (no such place)."
    static void promise37NoSuchPlace() {
        B.bounds("point: shelled", Samples::point, (x, place) -> x.shelled(place), 0, 0, NONE, 1);
        B.bounds("path: shelled", Samples::path, (x, place) -> x.shelled(place), 0, 2, NONE, 1);
        B.bounds("full: shelled", Samples::full, (x, place) -> x.shelled(place), 0, 11, NONE, 1);
        B.bounds("there is none: shelled", Samples::bowtie, (x, place) -> x.shelled(place), 0, 1, NONE, 1);
        B.refusesAll("new: shelled", Samples::none, (x, place) -> x.shelled(place), ANY, NONE, 1);
    }

    // Promise 38: "FACETS (bits) that are last in some SHELLING."
    static void promise38NoneSomeAndAll() {
        B.tells("one facet: peelable()", Samples::point, x -> x.peelable(), 1);
        B.tells("no shelling: peelable()", Samples::bowtie, x -> x.peelable(), 0);
        B.tells("no shelling, though many join all others: peelable()", Samples::snake, x -> x.peelable(), 0);
        B.tells("path: peelable()", Samples::path, x -> x.peelable(), 3);
        B.tells("blocked: peelable()", Samples::blocked, x -> x.peelable(), 384);
        B.tells("all of twelve: peelable()", Samples::full, x -> x.peelable(), 4095);
    }

    // Promise 38: "NONE: 1 (no COMPLEX)."
    static void promise38NoComplex() {
        B.refuses("new: peelable()", Samples::none, x -> x.peelable(), NONE, 1);
    }

    // Promise 39: "In how many ways the first n (0 .. FACETS) FACETS of THE ORDER, as they stand, go on to a SHELLING of all."
    static void promise39FromNoneToAll() {
        B.row("one facet: goesOn", Samples::point, (x, n) -> x.goesOn(n), 1, 1);
        B.row("a break: goesOn", Samples::path, (x, n) -> x.goesOn(n), 4, 1, 0, 0);
        B.row("moved: goesOn", Samples::moved, (x, n) -> x.goesOn(n), 4, 1, 1, 1);
        B.row("no shelling: goesOn", Samples::bowtie, (x, n) -> x.goesOn(n), 0, 0, 0);
        B.row("full: goesOn", Samples::full, (x, n) -> x.goesOn(n),
            191227392, 31933440, 3628800, 362880, 40320, 5040, 720, 120, 24, 6, 2, 1, 1);
    }

    // Promise 39: "In how many ways the first n (0 .. FACETS) FACETS of THE ORDER, as they stand, go on to a SHELLING of all."
    static void promise39AsTheyStand() {
        // ab, cd, bc can stand in another row that is a shelling, but not as they stand.
        B.row("a set that can stand otherwise: goesOn", () -> Checks.made(5, 2, "ab cd bc de"), (x, n) -> x.goesOn(n), 8, 1, 0, 0, 0);
        // ace, cef, acd join one another, but no shelling begins with these three.
        Bounds.Maker maker = () -> {
            ShellPeel x = Samples.blocked();
            x.move(4, 0);
            x.move(7, 1);
            x.move(8, 2);
            return x;
        };
        B.tells("a beginning that goes no further: goesOn(3)", maker, x -> x.goesOn(3), 0);
        B.tells("each of them joins: good()", maker, x -> x.good() >= 3 ? 1 : 0, 1);
    }

    // Promise 39: "NONE: 1 (no COMPLEX); 2."
    static void promise39OutOfBounds() {
        B.bounds("point: goesOn", Samples::point, (x, n) -> x.goesOn(n), 0, 1, NONE, 2);
        B.bounds("path: goesOn", Samples::path, (x, n) -> x.goesOn(n), 0, 3, NONE, 2);
        B.bounds("full: goesOn", Samples::full, (x, n) -> x.goesOn(n), 0, 12, NONE, 2);
        B.refusesAll("new: goesOn", Samples::none, (x, n) -> x.goesOn(n), ANY, NONE, 1);
    }

    // Promise 40: "The set (bits) of fewest FACETS that can stand in a row so that each JOINS those ahead, by which no SHELLING of all goes on; of several the least;"
    static void promise40TheFewestAndTheLeast() {
        B.tells("blocked: stuck()", Samples::blocked, x -> x.stuck(), 400);
        // 562 is less than 578, but has more facets.
        B.tells("fewest: stuck()", () -> Checks.made(6, 3, "cdf bcd cef ace abe abd bde acf adf bef"), x -> x.stuck(), 578);
        B.tells("of several the least: stuck()",
            () -> Checks.made(7, 3, "aeg acg ceg cfg abe afg abd adf bce bcd cde def"), x -> x.stuck(), 2210);
    }

    // Promise 40: "-2 none (but if there is no SHELLING at all: 0)."
    static void promise40NoneAndNoShellingAtAll() {
        B.tells("one facet: stuck()", Samples::point, x -> x.stuck(), -2);
        B.tells("path, its order no shelling: stuck()", Samples::path, x -> x.stuck(), -2);
        B.tells("full: stuck()", Samples::full, x -> x.stuck(), -2);
        B.tells("no shelling at all: stuck()", Samples::bowtie, x -> x.stuck(), 0);
        B.tells("snake, no shelling at all: stuck()", Samples::snake, x -> x.stuck(), 0);
    }

    // Promise 40: "NONE: 1 (no COMPLEX)."
    static void promise40NoComplex() {
        B.refuses("new: stuck()", Samples::none, x -> x.stuck(), NONE, 1);
    }

    // Promise 41: "How many FACETS are left when it is PEELED by DRAWS from a SEED (0 .. 65,536) on (nothing changes by that)."
    // Terms II: "(A DRAW of m: SEED becomes (75 times SEED and 74) mod 65,537; SEED mod m.)"
    static void promise41TheFirstAndTheLastSeed() {
        B.tells("path: peeled(0)", Samples::path, x -> x.peeled(0), 2);
        // 65,536 is drawn again and again: 75 times it and 74 is 65,536 mod 65,537.
        B.tells("path: peeled(65536)", Samples::path, x -> x.peeled(65536), 1);
        B.tells("path: peeled(65535)", Samples::path, x -> x.peeled(65535), 1);
        B.tells("broad: peeled(0)", Samples::broad, x -> x.peeled(0), 5);
        B.tells("broad: peeled(1)", Samples::broad, x -> x.peeled(1), 3);
        B.tells("broad: peeled(65535)", Samples::broad, x -> x.peeled(65535), 6);
        B.tells("broad: peeled(65536)", Samples::broad, x -> x.peeled(65536), 7);
        B.tells("full: peeled(65536)", Samples::full, x -> x.peeled(65536), 2);
    }

    // Promise 41: "How many FACETS are left when it is PEELED by DRAWS from a SEED (0 .. 65,536) on (nothing changes by that)."
    // Terms II: "as long as more than one FACET is left, and there are any that JOIN all others that are left, one of these, DRAWN, goes (by numbers)."
    // Terms II: "TO PEEL by DRAWS:"
    static void promise41OneIsLeftOrNoneJoins() {
        B.tells("one facet: peeled(0)", Samples::point, x -> x.peeled(0), 1);
        B.tells("down to one: peeled(7)", Samples::fives, x -> x.peeled(7), 1);
        B.tells("none joins: peeled(0)", Samples::bowtie, x -> x.peeled(0), 2);
        B.tells("none of seven joins: peeled(5)", Samples::plane, x -> x.peeled(5), 7);
        // By numbers, not by places: the order changes nothing.
        B.tells("moved: peeled(0)", Samples::moved, x -> x.peeled(0), 2);
        B.tells("moved: peeled(65535)", Samples::moved, x -> x.peeled(65535), 1);
        B.tells("stopped on the way: peeled(4)", Samples::snake, x -> x.peeled(4), 7);
    }

    // Promise 41: "NONE: 1 (no COMPLEX); 2."
    static void promise41OutOfBounds() {
        B.bounds("path: peeled", Samples::path, (x, seed) -> x.peeled(seed), 0, 65536, NONE, 2);
        B.bounds("point: peeled", Samples::point, (x, seed) -> x.peeled(seed), 0, 65536, NONE, 2);
        B.refusesAll("new: peeled", Samples::none, (x, seed) -> x.peeled(seed), ANY, NONE, 1);
    }

    // Promise 42: "How many FACETS LINK of a FACE has."
    // Terms II: "LINK of a FACE: the COMPLEX of all FACETS in which it lies, without its POINTS (SIZE is less by these)."
    static void promise42OfTheEmptyFaceAndOfAFacet() {
        B.tells("of the empty face: link(0)", Samples::full, x -> x.link(0), 12);
        B.tells("of a point: link(1)", Samples::full, x -> x.link(1), 6);
        B.tells("of the last point: link(64)", Samples::full, x -> x.link(64), 2);
        B.tells("of a facet: link(12)", Samples::full, x -> x.link(12), 1);
        B.tells("of all points: link(7)", Samples::lone, x -> x.link(7), 1);
        B.tells("point: link(1)", Samples::point, x -> x.link(1), 1);
    }

    // Promise 42: "NONE: 1 (no COMPLEX); 2 (0 .. all POINTS); 5 (no FACE)."
    static void promise42OutOfBoundsAndNoFace() {
        dueNoSuchSet("link", (x, face) -> x.link(face));
        dueNoFace("link", (x, face) -> x.link(face));
    }

    // Promise 43: "ROUND of k (0 .. SIZE of it) of LINK of a FACE."
    static void promise43OfTheEmptyFaceAndOfAFacet() {
        B.row("of the empty face: linkRound(0, k)", Samples::full, (x, k) -> x.linkRound(0, k), 0, 0, 6);
        B.row("of a point: linkRound(1, k)", Samples::full, (x, k) -> x.linkRound(1, k), 0, 5);
        B.row("of a facet: linkRound(12, k)", Samples::full, (x, k) -> x.linkRound(12, k), 1);
        B.row("of all points: linkRound(7, k)", Samples::lone, (x, k) -> x.linkRound(7, k), 1);
        B.row("bowtie's middle: linkRound(4, k)", Samples::bowtie, (x, k) -> x.linkRound(4, k), 0, 1, 0);
        B.row("fives, a point: linkRound(32, k)", Samples::fives, (x, k) -> x.linkRound(32, k), 0, 0, 0, 0, 1);
    }

    // Promise 43: "NONE: 1 (no COMPLEX); 2 (face); 5; 2 (k)."
    static void promise43Refusals() {
        dueNoSuchSet("linkRound(face, 0)", (x, face) -> x.linkRound(face, 0));
        dueNoFace("linkRound(face, 0)", (x, face) -> x.linkRound(face, 0));
        dueNoFace("linkRound(face, -1), the face ahead of k", (x, face) -> x.linkRound(face, -1));
        B.bounds("full: linkRound(0, k)", Samples::full, (x, k) -> x.linkRound(0, k), 0, 2, NONE, 2);
        B.bounds("full: linkRound(1, k)", Samples::full, (x, k) -> x.linkRound(1, k), 0, 1, NONE, 2);
        B.bounds("full: linkRound(12, k)", Samples::full, (x, k) -> x.linkRound(12, k), 0, 0, NONE, 2);
        B.bounds("broad: linkRound(0, k)", Samples::broad, (x, k) -> x.linkRound(0, k), 0, 5, NONE, 2);
        B.bounds("broad: linkRound(31, k)", Samples::broad, (x, k) -> x.linkRound(31, k), 0, 0, NONE, 2);
        B.refusesAll("new: linkRound(k, k)", Samples::none, (x, k) -> x.linkRound(k, k), ANY, NONE, 1);
    }

    // Promise 44: "How many SHELLINGS LINK of a FACE has."
    static void promise44OfTheEmptyFaceAndOfAFacet() {
        B.tells("of the empty face: linkShellings(0)", Samples::full, x -> x.linkShellings(0), 191227392);
        B.tells("of a point: linkShellings(1)", Samples::full, x -> x.linkShellings(1), 720);
        B.tells("of a facet: linkShellings(12)", Samples::full, x -> x.linkShellings(12), 1);
        B.tells("none: linkShellings(4)", Samples::bowtie, x -> x.linkShellings(4), 0);
        B.tells("none, but of a point one: linkShellings(1)", Samples::bowtie, x -> x.linkShellings(1), 1);
        B.tells("all facets have it: linkShellings(1)", Samples::broad, x -> x.linkShellings(1), 70939872);
        B.tells("point: linkShellings(1)", Samples::point, x -> x.linkShellings(1), 1);
    }

    // Promise 44: "NONE: 1 (no COMPLEX); 2; 5."
    static void promise44OutOfBoundsAndNoFace() {
        dueNoSuchSet("linkShellings", (x, face) -> x.linkShellings(face));
        dueNoFace("linkShellings", (x, face) -> x.linkShellings(face));
    }

    // Promise 45: "1 if it is EVEN, 0."
    // Terms II: "A COMPLEX is EVEN, if of each of its FACES the LINK has ROUND of k 0 for all k less than its own SIZE."
    static void promise45LessThanItsSizeAlone() {
        B.tells("point: even()", Samples::point, x -> x.even(), 1);
        B.tells("dots, 2 go round by their size: even()", Samples::dots, x -> x.even(), 1);
        B.tells("sphere, one goes round by its size: even()", Samples::sphere, x -> x.even(), 1);
        B.tells("the empty face's alone isn't so: even()", BoundsShellingsTest::split, x -> x.even(), 0);
        B.tells("a point's alone isn't so: even()", Samples::bowtie, x -> x.even(), 0);
        B.tells("an edge's isn't so: even()", () -> Checks.made(6, 4, "abcd abef"), x -> x.even(), 0);
        B.tells("by halves it isn't so: even()", Samples::projective, x -> x.even(), 0);
        B.tells("full: even()", Samples::full, x -> x.even(), 1);
        B.tells("broad: even()", Samples::broad, x -> x.even(), 1);
    }

    // Promise 45: "NONE: 1 (no COMPLEX)."
    static void promise45NoComplex() {
        B.refuses("new: even()", Samples::none, x -> x.even(), NONE, 1);
    }

    // Promise 46: "The FACE with most POINTS, of several the least, of which LINK has no SHELLING; -2 none."
    static void promise46MostThenLeastOrNone() {
        B.tells("none: obstruction()", Samples::full, x -> x.obstruction(), -2);
        B.tells("none, one facet: obstruction()", Samples::point, x -> x.obstruction(), -2);
        B.tells("none, size 1: obstruction()", Samples::dots, x -> x.obstruction(), -2);
        B.tells("none, though the order is no shelling: obstruction()", Samples::path, x -> x.obstruction(), -2);
        B.tells("the empty face: obstruction()", BoundsShellingsTest::split, x -> x.obstruction(), 0);
        B.tells("the empty face alone: obstruction()", Samples::projective, x -> x.obstruction(), 0);
        B.tells("a point, the empty face too: obstruction()", Samples::bowtie, x -> x.obstruction(), 4);
        B.tells("of seven points the least: obstruction()", Samples::plane, x -> x.obstruction(), 1);
        B.tells("two points, a and b too: obstruction()", () -> Checks.made(6, 4, "abcd abef"), x -> x.obstruction(), 3);
        B.tells("of two pairs the least: obstruction()", () -> Checks.made(7, 4, "cdeg abcd abef"), x -> x.obstruction(), 3);
        B.tells("three points: obstruction()", () -> Checks.made(7, 5, "cdefg abefg"), x -> x.obstruction(), 112);
    }

    // Promise 46: "NONE: 1 (no COMPLEX)."
    static void promise46NoComplex() {
        B.refuses("new: obstruction()", Samples::none, x -> x.obstruction(), NONE, 1);
    }

    // Promise 47: "1 if the COMPLEX FALLS APART, 0."
    // Terms II: "A COMPLEX FALLS APART, if it has one FACET, or a POINT can be SHED, both that are left FALLING APART."
    // Terms II: "then both LINK of it and the COMPLEX of FACETS without it are left."
    static void promise47OneFacetAndMore() {
        B.tells("one facet: fallsApart()", Samples::point, x -> x.fallsApart(), 1);
        B.tells("one facet, points beside it: fallsApart()", Samples::idle, x -> x.fallsApart(), 1);
        B.tells("two of size 1: fallsApart()", () -> Checks.made(2, 1, "a b"), x -> x.fallsApart(), 1);
        B.tells("nothing can be shed: fallsApart()", Samples::bowtie, x -> x.fallsApart(), 0);
        B.tells("one can be shed, but what is left doesn't fall: fallsApart()", Samples::firm, x -> x.fallsApart(), 0);
        B.tells("full: fallsApart()", Samples::full, x -> x.fallsApart(), 1);
        B.tells("broad: fallsApart()", Samples::broad, x -> x.fallsApart(), 1);
    }

    // Promise 47: "NONE: 1 (no COMPLEX)."
    static void promise47NoComplex() {
        B.refuses("new: fallsApart()", Samples::none, x -> x.fallsApart(), NONE, 1);
    }

    // Promise 48: "POINTS (bits) that can be SHED."
    // Terms II: "To SHED a POINT that some FACETS have and some don't: each FACET with it, without it, must lie in one that doesn't have it;"
    static void promise48SomeHaveItAndSomeDoNot() {
        B.tells("one facet: shed()", Samples::point, x -> x.shed(), 0);
        B.tells("all have a: shed()", () -> Checks.made(4, 2, "ab ac ad"), x -> x.shed(), 14);
        B.tells("none has d, all have a: shed()", () -> Checks.made(4, 2, "ab ac"), x -> x.shed(), 6);
        B.tells("none can be: shed()", Samples::bowtie, x -> x.shed(), 0);
        B.tells("all can be: shed()", Samples::full, x -> x.shed(), 127);
        B.tells("all but two: shed()", Samples::broad, x -> x.shed(), 124);
        B.tells("one, by which nothing falls: shed()", Samples::firm, x -> x.shed(), 8);
    }

    // Promise 48: "NONE: 1 (no COMPLEX)."
    static void promise48NoComplex() {
        B.refuses("new: shed()", Samples::none, x -> x.shed(), NONE, 1);
    }

    // Promise 49: "The least POINT that can be SHED so that both that are left FALL APART; -2 none."
    static void promise49TheLeastOrNone() {
        B.tells("point a: first()", Samples::full, x -> x.first(), 0);
        B.tells("the last point: first()", () -> Checks.made(7, 2, "af ag"), x -> x.first(), 5);
        B.tells("not a, which all have: first()", () -> Checks.made(4, 2, "ab ac ad"), x -> x.first(), 1);
        B.tells("not b, which can be shed: first()", Samples::blocked, x -> x.first(), 2);
        // Many sets of facets are left on the way here, and each must be looked at by itself.
        B.tells("six facets: first()", () -> Checks.made(7, 3, "bef acf cdg acg abf cdf"), x -> x.first(), 3);
        B.tells("six others: first()", () -> Checks.made(6, 3, "bce ace ade acd bcd def"), x -> x.first(), 1);
        B.tells("nine facets: first()", () -> Checks.made(7, 3, "bdg def deg afg aef cfg ade adg bde"), x -> x.first(), 1);
        B.tells("ten facets: first()", () -> Checks.made(7, 3, "bfg abd abc acf adf cfg bce abe bcf bef"), x -> x.first(), 3);
        B.tells("one facet, which falls apart: first()", Samples::point, x -> x.first(), -2);
        B.tells("none can be shed: first()", Samples::bowtie, x -> x.first(), -2);
        B.tells("one can be, but nothing falls: first()", Samples::firm, x -> x.first(), -2);
    }

    // Promise 49: "NONE: 1 (no COMPLEX)."
    static void promise49NoComplex() {
        B.refuses("new: first()", Samples::none, x -> x.first(), NONE, 1);
    }
}
