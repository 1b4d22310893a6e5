/** Boundary cases of the calls that tell the COMPLEX whatever THE ORDER is (promises 6 to 18). */
public final class BoundsComplexTest {
    private static final Bounds B = new Bounds();
    private static final int NONE = Bounds.NONE;
    private static final int LEAST = Bounds.LEAST;
    private static final int MOST = Bounds.MOST;
    private static final int[] ANY = {LEAST, -1, 0, 1, 2, 16, MOST};

    public static void main(String[] args) throws Exception {
        B.runAll(BoundsComplexTest.class);
    }

    // Promise 6: "0 POINTS, 1 SIZE, 2 FACETS, 3 FACES of all sizes, 4 POINTS that lie in a FACET (bits), 5 POINTS that lie in all FACETS (bits),"
    // Promise 6: "6 sets of POINTS that are no FACE, but each of them less a POINT is (MISSING ones)."
    static void promise06TheSmallestAndTheLargest() {
        B.row("point: about", Samples::point, (x, what) -> x.about(what), 1, 1, 1, 2, 1, 1, 0);
        B.row("broad: about", Samples::broad, (x, what) -> x.about(what), 7, 5, 12, 108, 127, 1, 5);
        B.row("full: about", Samples::full, (x, what) -> x.about(what), 7, 2, 12, 20, 127, 0, 16);
        B.row("one of seven: about", () -> Checks.made(7, 5, "abcde"), (x, what) -> x.about(what), 7, 5, 1, 32, 31, 31, 2);
        B.row("the last of seven: about", () -> Checks.made(7, 1, "g"), (x, what) -> x.about(what), 7, 1, 1, 2, 64, 64, 6);
    }

    // Promise 6: "4 POINTS that lie in a FACET (bits), 5 POINTS that lie in all FACETS (bits),"
    // Promise 6: "6 sets of POINTS that are no FACE, but each of them less a POINT is (MISSING ones)."
    static void promise06PointsInNoFacet() {
        B.row("idle: about", Samples::idle, (x, what) -> x.about(what), 4, 2, 1, 4, 3, 3, 2);
        B.tells("lone: nothing is missing", Samples::lone, x -> x.about(6), 0);
        B.tells("sphere: all points are", Samples::sphere, x -> x.about(6), 1);
    }

    // Promise 6: "NONE: 1 (what, too)."
    static void promise06NoSuchWhat() {
        B.bounds("about", Samples::moved, (x, what) -> x.about(what), 0, 6, NONE, 1);
        B.refusesAll("new: about", Samples::none, (x, what) -> x.about(what), new int[] {0, 6, 7, -1, LEAST, MOST}, NONE, 1);
    }

    // Promise 7: "A FACET (bits)."
    static void promise07TheFirstAndTheLast() {
        B.tells("full: facet(0)", Samples::full, x -> x.facet(0), 3);
        B.tells("full: facet(11)", Samples::full, x -> x.facet(11), 12);
        B.tells("broad: facet(11)", Samples::broad, x -> x.facet(11), 93);
        B.tells("point: facet(0)", Samples::point, x -> x.facet(0), 1);
        B.tells("by numbers, whatever the order: facet(0)", Samples::moved, x -> x.facet(0), 3);
    }

    // Promise 7: "NONE: 1."
    static void promise07NoSuchFacet() {
        B.bounds("path: facet", Samples::path, (x, i) -> x.facet(i), 0, 2, NONE, 1);
        B.bounds("full: facet", Samples::full, (x, i) -> x.facet(i), 0, 11, NONE, 1);
        B.bounds("point: facet", Samples::point, (x, i) -> x.facet(i), 0, 0, NONE, 1);
        B.refusesAll("new: facet", Samples::none, (x, i) -> x.facet(i), ANY, NONE, 1);
    }

    // Promise 8: "Which FACETS a set lies in (bits; 0: it is no FACE)."
    // Terms II: "Sets of POINTS are bits (a: 1, b: 2, ..), of FACETS, too (by numbers)."
    static void promise08TheEmptySetAndAllPoints() {
        B.tells("full: within(0)", Samples::full, x -> x.within(0), 4095);
        B.tells("full: within(127)", Samples::full, x -> x.within(127), 0);
        B.tells("full: within(64)", Samples::full, x -> x.within(64), 1 << 5 | 1 << 10);
        B.tells("full: within(96)", Samples::full, x -> x.within(96), 0);
        B.tells("full: within(12)", Samples::full, x -> x.within(12), 2048);
        B.tells("lone: within(7)", Samples::lone, x -> x.within(7), 1);
        B.tells("point: within(0)", Samples::point, x -> x.within(0), 1);
        B.tells("point: within(1)", Samples::point, x -> x.within(1), 1);
        B.tells("idle: a point in no facet", Samples::idle, x -> x.within(8), 0);
    }

    // Promise 8: "NONE: 1 (no COMPLEX); 2 (0 .. all POINTS)."
    static void promise08OutOfBounds() {
        B.bounds("path: within", Samples::path, (x, set) -> x.within(set), 0, 15, NONE, 2);
        B.bounds("full: within", Samples::full, (x, set) -> x.within(set), 0, 127, NONE, 2);
        B.bounds("point: within", Samples::point, (x, set) -> x.within(set), 0, 1, NONE, 2);
        B.refusesAll("new: within", Samples::none, (x, set) -> x.within(set), ANY, NONE, 1);
    }

    // Promise 9: "The i-th of the MISSING sets, by bits rising."
    static void promise09ByBitsRising() {
        B.row("full: missing", Samples::full, (x, i) -> x.missing(i), 7, 11, 13, 14, 19, 20, 24, 35, 36, 40, 48, 67, 68, 72, 80, 96);
        B.row("broad: missing", Samples::broad, (x, i) -> x.missing(i), 62, 94, 108, 116, 120);
        B.row("idle: missing", Samples::idle, (x, i) -> x.missing(i), 4, 8);
        B.row("sphere: missing", Samples::sphere, (x, i) -> x.missing(i), 15);
    }

    // Promise 9: "NONE: 1."
    static void promise09NoSuchMissingSet() {
        B.bounds("full: missing", Samples::full, (x, i) -> x.missing(i), 0, 15, NONE, 1);
        B.bounds("sphere: missing", Samples::sphere, (x, i) -> x.missing(i), 0, 0, NONE, 1);
        B.refusesAll("nothing is missing: missing", Samples::lone, (x, i) -> x.missing(i), ANY, NONE, 1);
        B.refusesAll("point: missing", Samples::point, (x, i) -> x.missing(i), ANY, NONE, 1);
        B.refusesAll("new: missing", Samples::none, (x, i) -> x.missing(i), ANY, NONE, 1);
    }

    // Promise 10: "f of k (0 .. SIZE)."
    // Terms II: "FACES: sets of POINTS that lie in a FACET (the empty one, too)."
    // Terms II: "f of k: how many FACES have k POINTS."
    static void promise10FromTheEmptyFaceToTheFacets() {
        B.row("point: faces", Samples::point, (x, k) -> x.faces(k), 1, 1);
        B.row("broad: faces", Samples::broad, (x, k) -> x.faces(k), 1, 7, 21, 35, 32, 12);
        B.row("full: faces", Samples::full, (x, k) -> x.faces(k), 1, 7, 12);
        B.row("idle: faces", Samples::idle, (x, k) -> x.faces(k), 1, 2, 1);
    }

    // Promise 10: "NONE: 1 (no COMPLEX); 2."
    static void promise10OutOfBounds() {
        B.bounds("path: faces", Samples::path, (x, k) -> x.faces(k), 0, 2, NONE, 2);
        B.bounds("broad: faces", Samples::broad, (x, k) -> x.faces(k), 0, 5, NONE, 2);
        B.bounds("point: faces", Samples::point, (x, k) -> x.faces(k), 0, 1, NONE, 2);
        B.refusesAll("new: faces", Samples::none, (x, k) -> x.faces(k), ANY, NONE, 1);
    }

    // Promise 11: "h of k (0 .. SIZE)."
    // Terms II: "h of k: the sum over i from 0 to k of f of i, times the ways to choose k less i of SIZE less i, with a less ahead if k less i is odd."
    static void promise11FromOneToTheLast() {
        B.row("point: h", Samples::point, (x, k) -> x.h(k), 1, 0);
        B.row("broad: h", Samples::broad, (x, k) -> x.h(k), 1, 2, 3, 4, 2, 0);
        B.row("full: h", Samples::full, (x, k) -> x.h(k), 1, 5, 6);
        B.row("dots: h", Samples::dots, (x, k) -> x.h(k), 1, 2);
        B.row("bowtie, one less than 0 (as NONE is): h", Samples::bowtie, (x, k) -> x.h(k), 1, 2, -1, 0);
    }

    // Promise 11: "Integer.MIN_VALUE: 1 (no COMPLEX); 2."
    static void promise11OutOfBounds() {
        B.bounds("path: h", Samples::path, (x, k) -> x.h(k), 0, 2, LEAST, 2);
        B.bounds("broad: h", Samples::broad, (x, k) -> x.h(k), 0, 5, LEAST, 2);
        B.bounds("point: h", Samples::point, (x, k) -> x.h(k), 0, 1, LEAST, 2);
        B.refusesAll("new: h", Samples::none, (x, k) -> x.h(k), ANY, LEAST, 1);
    }

    // Promise 12: "The sum of all FACES, those with an odd number of POINTS counting 1, others 1 less than 0."
    static void promise12TheEmptyFaceCountsToo() {
        B.tells("point: euler()", Samples::point, x -> x.euler(), 0);
        B.tells("dots: euler()", Samples::dots, x -> x.euler(), 2);
        B.tells("square, 1 less than 0 (as NONE is): euler()", Samples::square, x -> x.euler(), -1);
        B.tells("sphere: euler()", Samples::sphere, x -> x.euler(), 1);
        B.tells("full: euler()", Samples::full, x -> x.euler(), -6);
        B.tells("broad: euler()", Samples::broad, x -> x.euler(), 0);
    }

    // Promise 12: "Integer.MIN_VALUE: 1 (no COMPLEX)."
    static void promise12NoComplex() {
        B.refuses("new: euler()", Samples::none, x -> x.euler(), LEAST, 1);
    }

    // Promise 13: "RANK of k (0 .. SIZE)."
    // Terms II: "1 where the one lies in the other (of 0: 0)."
    // Terms II: "RANK of k: of a table by halves (1 and 1 is 0) with FACES of k POINTS down and of k less 1 along,"
    static void promise13OfNoPointsAndOfAll() {
        B.row("point: rank", Samples::point, (x, k) -> x.rank(k), 0, 1);
        B.row("broad: rank", Samples::broad, (x, k) -> x.rank(k), 0, 1, 6, 15, 20, 12);
        B.row("full: rank", Samples::full, (x, k) -> x.rank(k), 0, 1, 6);
        B.row("dots: rank", Samples::dots, (x, k) -> x.rank(k), 0, 1);
        B.row("sphere: rank", Samples::sphere, (x, k) -> x.rank(k), 0, 1, 3, 3);
    }

    // Promise 13: "NONE: 1 (no COMPLEX); 2."
    static void promise13OutOfBounds() {
        B.bounds("path: rank", Samples::path, (x, k) -> x.rank(k), 0, 2, NONE, 2);
        B.bounds("broad: rank", Samples::broad, (x, k) -> x.rank(k), 0, 5, NONE, 2);
        B.bounds("point: rank", Samples::point, (x, k) -> x.rank(k), 0, 1, NONE, 2);
        B.refusesAll("new: rank", Samples::none, (x, k) -> x.rank(k), ANY, NONE, 1);
    }

    // Promise 14: "ROUND of k (0 .. SIZE)."
    // Terms II: "ROUND of k: f of k less RANK of k less RANK of k and 1 (of SIZE and 1: 0)."
    static void promise14OfNoPointsAndOfAll() {
        B.row("point: round", Samples::point, (x, k) -> x.round(k), 0, 0);
        B.row("dots: round", Samples::dots, (x, k) -> x.round(k), 0, 2);
        B.row("full: round", Samples::full, (x, k) -> x.round(k), 0, 0, 6);
        B.row("broad: round", Samples::broad, (x, k) -> x.round(k), 0, 0, 0, 0, 0, 0);
        B.row("all of six by fives: round", Samples::fives, (x, k) -> x.round(k), 0, 0, 0, 0, 0, 1);
        B.row("by halves: round", Samples::projective, (x, k) -> x.round(k), 0, 0, 1, 1);
    }

    // Promise 14: "NONE: 1 (no COMPLEX); 2."
    static void promise14OutOfBounds() {
        B.bounds("path: round", Samples::path, (x, k) -> x.round(k), 0, 2, NONE, 2);
        B.bounds("broad: round", Samples::broad, (x, k) -> x.round(k), 0, 5, NONE, 2);
        B.bounds("point: round", Samples::point, (x, k) -> x.round(k), 0, 1, NONE, 2);
        B.refusesAll("new: round", Samples::none, (x, k) -> x.round(k), ANY, NONE, 1);
    }

    // Promise 15: "The FACET of THE DUAL for the i-th MISSING set."
    // Terms II: "a FACET for each MISSING set: all other POINTS (none, if nothing is MISSING)."
    // Terms II: "THE DUAL: a COMPLEX (of FACETS of unlike sizes),"
    static void promise15AllOtherPoints() {
        B.row("broad: dual", Samples::broad, (x, i) -> x.dual(i), 65, 33, 19, 11, 7);
        B.row("idle: dual", Samples::idle, (x, i) -> x.dual(i), 11, 7);
        B.row("all points are missing: dual", Samples::sphere, (x, i) -> x.dual(i), 0);
        B.tells("full: dual(0)", Samples::full, x -> x.dual(0), 120);
        B.tells("full: dual(15)", Samples::full, x -> x.dual(15), 31);
    }

    // Promise 15: "NONE: 1."
    static void promise15NoSuchMissingSet() {
        B.bounds("full: dual", Samples::full, (x, i) -> x.dual(i), 0, 15, NONE, 1);
        B.bounds("sphere: dual", Samples::sphere, (x, i) -> x.dual(i), 0, 0, NONE, 1);
        B.refusesAll("nothing is missing: dual", Samples::lone, (x, i) -> x.dual(i), ANY, NONE, 1);
        B.refusesAll("new: dual", Samples::none, (x, i) -> x.dual(i), ANY, NONE, 1);
    }

    // Promise 16: "ROUND of k (0 .. POINTS) of THE DUAL (by its FACES)."
    // Terms II: "a FACET for each MISSING set: all other POINTS (none, if nothing is MISSING)."
    static void promise16NoFacetAndTheEmptyOne() {
        B.row("nothing is missing: dualRound", Samples::lone, (x, k) -> x.dualRound(k), 0, 0, 0, 0);
        B.row("point: dualRound", Samples::point, (x, k) -> x.dualRound(k), 0, 0);
        B.row("its only facet is empty: dualRound", Samples::sphere, (x, k) -> x.dualRound(k), 1, 0, 0, 0, 0);
        B.row("full: dualRound", Samples::full, (x, k) -> x.dualRound(k), 0, 0, 0, 0, 6, 0, 0, 0);
        B.row("broad: dualRound", Samples::broad, (x, k) -> x.dualRound(k), 0, 0, 0, 0, 0, 0, 0, 0);
        B.row("dots: dualRound", Samples::dots, (x, k) -> x.dualRound(k), 0, 2, 0, 0);
    }

    // Promise 16: "NONE: 1 (no COMPLEX); 2."
    static void promise16OutOfBounds() {
        B.bounds("path: dualRound", Samples::path, (x, k) -> x.dualRound(k), 0, 4, NONE, 2);
        B.bounds("broad: dualRound", Samples::broad, (x, k) -> x.dualRound(k), 0, 7, NONE, 2);
        B.bounds("point: dualRound", Samples::point, (x, k) -> x.dualRound(k), 0, 1, NONE, 2);
        B.refusesAll("new: dualRound", Samples::none, (x, k) -> x.dualRound(k), ANY, NONE, 1);
    }

    // Promise 17: "FACETS (bits) that are NEAR a FACET."
    // Terms II: "NEAR are two FACETS that have all POINTS but one in common."
    static void promise17NoneAndAll() {
        B.tells("point: near(0)", Samples::point, x -> x.near(0), 0);
        B.tells("bowtie: near(1)", Samples::bowtie, x -> x.near(1), 0);
        B.tells("no point in common at size 1: near(1)", Samples::dots, x -> x.near(1), 5);
        B.tells("all others: near(3)", Samples::sphere, x -> x.near(3), 7);
        B.tells("full: near(0)", Samples::full, x -> x.near(0), 2046);
        B.tells("full: near(11)", Samples::full, x -> x.near(11), 198);
    }

    // Promise 17: "NONE: 1."
    static void promise17NoSuchFacet() {
        B.bounds("path: near", Samples::path, (x, i) -> x.near(i), 0, 2, NONE, 1);
        B.bounds("full: near", Samples::full, (x, i) -> x.near(i), 0, 11, NONE, 1);
        B.bounds("point: near", Samples::point, (x, i) -> x.near(i), 0, 0, NONE, 1);
        B.refusesAll("new: near", Samples::none, (x, i) -> x.near(i), ANY, NONE, 1);
    }

    // Promise 18: "By how few steps from FACET to NEAR FACET one comes from one to another one (0: to itself); -2 never."
    static void promise18ItselfFarAndNever() {
        B.tells("to itself: apart(0, 0)", Samples::point, x -> x.apart(0, 0), 0);
        B.tells("to itself, none near: apart(1, 1)", Samples::bowtie, x -> x.apart(1, 1), 0);
        B.tells("never: apart(0, 1)", Samples::bowtie, x -> x.apart(0, 1), -2);
        B.tells("never: apart(1, 0)", Samples::bowtie, x -> x.apart(1, 0), -2);
        // No row of facets of seven points, each near those beside it alone, is longer than this one.
        B.tells("as far as it goes: apart(0, 9)", Samples::snake, x -> x.apart(0, 9), 9);
        B.tells("and back: apart(9, 0)", Samples::snake, x -> x.apart(9, 0), 9);
        B.tells("full: apart(0, 11)", Samples::full, x -> x.apart(0, 11), 2);
        B.tells("full: apart(11, 1)", Samples::full, x -> x.apart(11, 1), 1);
    }

    // Promise 18: "NONE: 1."
    static void promise18NoSuchFacet() {
        B.bounds("path: apart(i, 0)", Samples::path, (x, i) -> x.apart(i, 0), 0, 2, NONE, 1);
        B.bounds("path: apart(0, j)", Samples::path, (x, j) -> x.apart(0, j), 0, 2, NONE, 1);
        B.bounds("full: apart(i, 11)", Samples::full, (x, i) -> x.apart(i, 11), 0, 11, NONE, 1);
        B.bounds("full: apart(11, j)", Samples::full, (x, j) -> x.apart(11, j), 0, 11, NONE, 1);
        B.refusesAll("path, the same twice: apart(i, i)", Samples::path, (x, i) -> x.apart(i, i), Bounds.beyond(0, 2), NONE, 1);
        B.refusesAll("new: apart(i, i)", Samples::none, (x, i) -> x.apart(i, i), ANY, NONE, 1);
    }
}
