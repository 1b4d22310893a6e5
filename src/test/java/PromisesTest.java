/** Each promise by its number: ordinary inputs, the edges that the document names, wrong inputs. */
public final class PromisesTest {
    private static final Checks C = new Checks();
    private static final int LEAST = Integer.MIN_VALUE;
    private static final int MOST = Integer.MAX_VALUE;

    public static void main(String[] args) {
        theTape();
        theComplex();
        theFaces();
        theRounds();
        theDual();
        nearness();
        theOrder();
        restrictions();
        cycles();
        cells();
        leaps();
        allOrders();
        beginnings();
        draws();
        links();
        obstructions();
        shedding();
        adding();
        taking();
        placing();
        turning();
        breaks();
        troubles();
        C.end("PromisesTest");
    }

    // Promises 1, 2, 57
    private static void theTape() {
        ShellPeel x = Samples.none();
        C.due("1 trouble()", x.trouble(), 0);
        C.due("1 size()", x.size(), 0);
        C.due("1 fault()", x.fault(), 0);
        C.due("1 where()", x.where(), -1);
        C.due("1 about(2)", x, x.about(2), -1, 1);
        for (int fed = 1; fed <= 10; fed++) {
            C.due("2 feed", x.feed(-1, 0, 1, MOST, LEAST), 20 * fed);
            C.due("57 size()", x.size(), 20 * fed);
        }
        C.due("2 feed beyond 200", x.feed(0, 0, 0, 0, 0), -1);
        C.due("57 size() then", x.size(), 200);
        C.due("2 feed leaves trouble", x.trouble(), 1);
        C.due("3 complex(201)", x, x.complex(201), -1, 2);
        C.due("3 complex(200)", x, x.complex(200), -1, 4);
        C.due("4 fault()", x.fault(), 1);
        C.due("5 where()", x.where(), 0);
        C.due("57 empty then", x.size(), 0);
        ShellPeel y = Samples.none();
        Checks.feed(y, "complex points 1 siz");
        y.feed(0x6520313b, 0x66616365, 0x74206120, 0x20202020, 0x20202020);
        C.due("2 highest byte first", y.complex(40), 1);
        ShellPeel z = Samples.none();
        for (int fed = 0; fed < 10; fed++) {
            z.feed(0x20202020, 0x20202020, 0x20202020, 0x20202020, 0x20202020);
        }
        C.due("3 blanks alone", z, z.complex(200), -1, 4);
        C.due("5 at their end", z.where(), 200);
    }

    // Promises 3, 4, 5
    private static void theComplex() {
        ShellPeel x = Samples.none();
        C.due("3 complex(-1)", x, x.complex(-1), -1, 2);
        C.due("3 complex(1)", x, x.complex(1), -1, 2);
        C.due("4 refused by 2 is no fault", x.fault(), 0);
        C.due("3 told", x, Checks.tell(x, "complex points 4 size 2;facet ab;facet cd;facet bc"), 3, 0);
        C.due("3 empties the tape", x.size(), 0);
        C.due("4 none", x.fault(), 0);
        C.due("5 none", x.where(), -1);
        x.move(0, 2);
        Checks.feed(x, "complex points 4 size 2;facet abc");
        C.due("3 n too large", x, x.complex(41), -1, 2);
        C.due("3 the tape stays", x.size(), 40);
        C.due("3 ODD", x, x.complex(33), -1, 4);
        C.due("3 the tape goes", x.size(), 0);
        C.due("4 ODD", x.fault(), 3);
        C.due("5 ODD", x.where(), 30);
        C.due("5 where() twice", x.where(), 30);
        C.due("3 the complex stays", x, x.about(2), 3, 0);
        C.due("3 its order too", x.ordered(2), 0);
        C.due("5 gone by another call", x.where(), -1);
        C.due("4 stays by another call", x.fault(), 3);
        C.due("3 refused by 2", x, x.complex(MOST), -1, 2);
        C.due("4 stays by a refusal by 2", x.fault(), 3);
        C.due("5 refused by 2", x.where(), -1);
        C.due("3 told again", Checks.tell(x, "complex points 2 size 1;facet b"), 1);
        C.due("4 none again", x.fault(), 0);
        C.due("3 the order is by numbers", x.ordered(0), 0);
        C.due("3 and no longer", x.ordered(1), -1);
        ShellPeel y = Samples.none();
        Checks.feed(y, "complex points 4 size 2;facet ab;facet cd;facet bc");
        C.due("3 the first n bytes", y.complex(32), 1);
        C.due("3 all of the tape goes", y.size(), 0);
    }

    // Promises 6, 7, 8, 10, 11, 12
    private static void theFaces() {
        int[] idle = {4, 2, 1, 4, 3, 3, 2};
        int[] bowtie = {5, 3, 2, 14, 31, 4, 4};
        for (int what = 0; what < 7; what++) {
            C.due("6 about(" + what + ")", Samples.idle().about(what), idle[what]);
            C.due("6 about(" + what + ")", Samples.bowtie().about(what), bowtie[what]);
            C.due("6 no complex", Samples.none().about(what), -1);
        }
        ShellPeel x = Samples.bowtie();
        C.due("6 about(7)", x, x.about(7), -1, 1);
        C.due("6 about(-1)", x, x.about(-1), -1, 1);
        C.due("7 facet(0)", x, x.facet(0), 7, 0);
        C.due("7 facet(1)", x, x.facet(1), 28, 0);
        C.due("7 facet(2)", x, x.facet(2), -1, 1);
        C.due("7 facet(-1)", x, x.facet(-1), -1, 1);
        C.due("8 within(0)", x, x.within(0), 3, 0);
        C.due("8 within(4)", x, x.within(4), 3, 0);
        C.due("8 within(24)", x, x.within(24), 2, 0);
        C.due("8 within(31)", x, x.within(31), 0, 0);
        C.due("8 within(32)", x, x.within(32), -1, 2);
        C.due("8 within(-1)", x, x.within(-1), -1, 2);
        ShellPeel none = Samples.none();
        C.due("8 no complex", none, none.within(-1), -1, 1);
        int[] f = {1, 5, 6, 2};
        int[] h = {1, 2, -1, 0};
        for (int k = 0; k <= 3; k++) {
            C.due("10 faces(" + k + ")", x, x.faces(k), f[k], 0);
            C.due("11 h(" + k + ")", x, x.h(k), h[k], 0);
        }
        C.due("10 faces(4)", x, x.faces(4), -1, 2);
        C.due("10 faces(-1)", x, x.faces(-1), -1, 2);
        C.due("10 no complex", none, none.faces(9), -1, 1);
        C.due("11 h(4)", x, x.h(4), LEAST, 2);
        C.due("11 h(-1)", x, x.h(-1), LEAST, 2);
        C.due("11 no complex", none, none.h(0), LEAST, 1);
        C.due("12 euler(), bowtie", x, x.euler(), 0, 0);
        C.due("12 euler(), sphere", Samples.sphere().euler(), 1);
        C.due("12 euler(), square", Samples.square().euler(), -1);
        C.due("12 euler(), dots", Samples.dots().euler(), 2);
        C.due("12 no complex", none, none.euler(), LEAST, 1);
    }

    // Promises 13, 14
    private static void theRounds() {
        int[] rank = {0, 1, 3, 3};
        int[] round = {0, 0, 0, 1};
        ShellPeel x = Samples.sphere();
        for (int k = 0; k <= 3; k++) {
            C.due("13 rank(" + k + ")", x, x.rank(k), rank[k], 0);
            C.due("14 round(" + k + ")", x, x.round(k), round[k], 0);
        }
        C.due("13 rank(4)", x, x.rank(4), -1, 2);
        C.due("13 rank(-1)", x, x.rank(-1), -1, 2);
        C.due("14 round(4)", x, x.round(4), -1, 2);
        C.due("14 round(-1)", x, x.round(-1), -1, 2);
        ShellPeel none = Samples.none();
        C.due("13 no complex", none, none.rank(-1), -1, 1);
        C.due("14 no complex", none, none.round(0), -1, 1);
        C.due("14 dots", Samples.dots().round(1), 2);
        C.due("14 two edges", Checks.made(4, 2, "ab cd").round(1), 1);
        // By halves, and by halves only, this goes round in two sizes.
        C.due("14 projective, 2", Samples.projective().round(2), 1);
        C.due("14 projective, 3", Samples.projective().round(3), 1);
        C.due("13 projective, 3", Samples.projective().rank(3), 9);
    }

    // Promises 9, 15, 16
    private static void theDual() {
        ShellPeel x = Samples.idle();
        C.due("9 missing(0)", x, x.missing(0), 4, 0);
        C.due("9 missing(1)", x, x.missing(1), 8, 0);
        C.due("9 missing(2)", x, x.missing(2), -1, 1);
        C.due("9 missing(-1)", x, x.missing(-1), -1, 1);
        C.due("15 dual(0)", x, x.dual(0), 11, 0);
        C.due("15 dual(1)", x, x.dual(1), 7, 0);
        C.due("15 dual(2)", x, x.dual(2), -1, 1);
        C.due("15 dual(-1)", x, x.dual(-1), -1, 1);
        ShellPeel none = Samples.none();
        C.due("9 no complex", none, none.missing(0), -1, 1);
        C.due("15 no complex", none, none.dual(0), -1, 1);
        C.due("16 no complex", none, none.dualRound(0), -1, 1);
        C.due("9 nothing is missing", Samples.lone().missing(0), -1);
        C.due("15 nothing is missing", Samples.lone().dual(0), -1);
        for (int k = 0; k <= 3; k++) {
            C.due("16 nothing is missing", Samples.lone().dualRound(k), 0);
        }
        ShellPeel s = Samples.sphere();
        C.due("9 sphere", s.missing(0), 15);
        C.due("15 sphere", s, s.dual(0), 0, 0);
        C.due("16 sphere, the empty set alone", s, s.dualRound(0), 1, 0);
        C.due("16 sphere", s, s.dualRound(4), 0, 0);
        C.due("16 dualRound(5)", s, s.dualRound(5), -1, 2);
        C.due("16 dualRound(-1)", s, s.dualRound(-1), -1, 2);
        // What goes round in the square by 2 goes round in its dual by 4 less 2 less 1.
        int[] due = {0, 1, 0, 0, 0};
        for (int k = 0; k <= 4; k++) {
            C.due("16 square", Samples.square().dualRound(k), due[k]);
        }
    }

    // Promises 17, 18
    private static void nearness() {
        ShellPeel x = Samples.path();
        C.due("17 near(0)", x, x.near(0), 4, 0);
        C.due("17 near(2)", x, x.near(2), 3, 0);
        C.due("17 near(3)", x, x.near(3), -1, 1);
        C.due("17 near(-1)", x, x.near(-1), -1, 1);
        C.due("17 dots", Samples.dots().near(1), 5);
        C.due("17 bowtie", Samples.bowtie().near(0), 0);
        C.due("18 apart(0, 1)", x, x.apart(0, 1), 2, 0);
        C.due("18 apart(1, 2)", x, x.apart(1, 2), 1, 0);
        C.due("18 apart(2, 2)", x, x.apart(2, 2), 0, 0);
        C.due("18 apart(3, 0)", x, x.apart(3, 0), -1, 1);
        C.due("18 apart(0, 3)", x, x.apart(0, 3), -1, 1);
        C.due("18 apart(-1, 0)", x, x.apart(-1, 0), -1, 1);
        C.due("18 apart(0, -1)", x, x.apart(0, -1), -1, 1);
        ShellPeel b = Samples.bowtie();
        C.due("18 never", b, b.apart(0, 1), -2, 0);
        ShellPeel none = Samples.none();
        C.due("17 no complex", none, none.near(0), -1, 1);
        C.due("18 no complex", none, none.apart(0, 0), -1, 1);
        C.due("18 a long way", Checks.made(7, 2, "ab bc cd de ef fg").apart(0, 5), 5);
    }

    // Promises 19, 20, 22
    private static void theOrder() {
        ShellPeel x = Samples.path();
        int[] joins = {1, 0, 1};
        for (int place = 0; place < 3; place++) {
            C.due("19 ordered(" + place + ")", x, x.ordered(place), place, 0);
            C.due("20 joins(" + place + ")", x, x.joins(place), joins[place], 0);
        }
        C.due("19 ordered(3)", x, x.ordered(3), -1, 1);
        C.due("19 ordered(-1)", x, x.ordered(-1), -1, 1);
        C.due("20 joins(3)", x, x.joins(3), -1, 1);
        C.due("20 joins(-1)", x, x.joins(-1), -1, 1);
        C.due("22 good()", x, x.good(), 1, 0);
        C.due("22 sphere", Samples.sphere().good(), 4);
        C.due("22 bowtie", Samples.bowtie().good(), 1);
        ShellPeel none = Samples.none();
        C.due("19 no complex", none, none.ordered(0), -1, 1);
        C.due("20 no complex", none, none.joins(0), -1, 1);
        C.due("22 no complex", none, none.good(), -1, 1);
        // The third one meets the first by an edge but the second by a point beside it.
        C.due("20 by an edge and a point", Checks.made(6, 3, "abc cde abe").joins(2), 0);
    }

    // Promises 21, 23, 26, 31
    private static void restrictions() {
        ShellPeel x = Samples.sphere();
        int[] restricted = {0, 8, 12, 14};
        int[] faces = {1, 4, 6, 4};
        for (int place = 0; place < 4; place++) {
            C.due("21 restricted(" + place + ")", x, x.restricted(place), restricted[place], 0);
            C.due("23 sized(" + place + ")", x, x.sized(place), 1, 0);
            C.due("31 rebuilt(" + place + ")", x, x.rebuilt(place), faces[place], 0);
        }
        C.due("21 restricted(4)", x, x.restricted(4), -1, 1);
        C.due("21 restricted(-1)", x, x.restricted(-1), -1, 1);
        C.due("23 sized(4)", x, x.sized(4), -1, 2);
        C.due("23 sized(-1)", x, x.sized(-1), -1, 2);
        C.due("31 rebuilt(4)", x, x.rebuilt(4), -1, 2);
        C.due("31 rebuilt(-1)", x, x.rebuilt(-1), -1, 2);
        C.due("26 mean()", x.mean(), 1.5);
        C.due("26 trouble()", x.trouble(), 0);
        C.due("26 path", Samples.path().mean(), 2.0 / 3);
        C.due("26 lone", Samples.lone().mean(), 0.0);
        C.due("31 no shelling", Samples.path().rebuilt(0), 2);
        ShellPeel none = Samples.none();
        C.due("21 no complex", none, none.restricted(0), -1, 1);
        C.due("23 no complex", none, none.sized(-1), -1, 1);
        C.due("31 no complex", none, none.rebuilt(-1), -1, 1);
        C.due("26 no complex", none.mean(), -1.0);
        C.due("26 no complex, trouble()", none.trouble(), 1);
    }

    // Promises 24, 25
    private static void cycles() {
        ShellPeel x = Samples.dots();
        C.due("24 spanning(0)", x, x.spanning(0), 1, 0);
        C.due("24 spanning(1)", x, x.spanning(1), 2, 0);
        C.due("24 spanning(2)", x, x.spanning(2), -1, 1);
        C.due("24 spanning(-1)", x, x.spanning(-1), -1, 1);
        C.due("25 cycle(0)", x, x.cycle(0), 3, 0);
        C.due("25 cycle(1)", x, x.cycle(1), 5, 0);
        C.due("25 cycle(2)", x, x.cycle(2), -1, 1);
        C.due("25 cycle(-1)", x, x.cycle(-1), -1, 1);
        // By facets' numbers, not by places.
        C.due("53 move", x.move(2, 0), 3);
        C.due("24 a place", x.spanning(1), 2);
        C.due("25 cycle(0) then", x.cycle(0), 5);
        C.due("25 cycle(1) then", x.cycle(1), 6);
        ShellPeel p = Samples.path();
        C.due("25 no shelling", p, p.cycle(0), -2, 0);
        C.due("25 no shelling and none such", p, p.cycle(1), -1, 1);
        C.due("25 sphere", Samples.sphere().cycle(0), 15);
        // Two triangles round: the second one closes by its own edges alone.
        ShellPeel t = Checks.made(5, 2, "ab bc ac cd de ce");
        C.due("24 two triangles", t.spanning(0), 2);
        C.due("24 two triangles", t.spanning(1), 5);
        C.due("25 two triangles", t.cycle(0), 7);
        C.due("25 two triangles", t.cycle(1), 56);
        ShellPeel none = Samples.none();
        C.due("24 no complex", none, none.spanning(0), -1, 1);
        C.due("25 no complex", none, none.cycle(0), -1, 1);
    }

    // Promises 27, 28, 29, 30
    private static void cells() {
        ShellPeel x = Samples.path();
        C.due("27 cell(0)", x, x.cell(0), 0, 0);
        C.due("27 cell(4)", x, x.cell(4), 1, 0);
        C.due("27 cell(6)", x, x.cell(6), 2, 0);
        C.due("27 cell(5)", x, x.cell(5), -2, 0);
        C.due("27 cell(16)", x, x.cell(16), -1, 2);
        C.due("27 cell(-1)", x, x.cell(-1), -1, 2);
        C.due("28 fresh(0)", x, x.fresh(0), 4, 0);
        C.due("28 fresh(1)", x, x.fresh(1), 3, 0);
        C.due("28 fresh(3)", x, x.fresh(3), -1, 1);
        C.due("28 fresh(-1)", x, x.fresh(-1), -1, 1);
        C.due("29 between(0)", x, x.between(0), 2, 0);
        C.due("29 between(6)", x, x.between(6), 1, 0);
        C.due("29 between(5)", x, x.between(5), 0, 0);
        C.due("29 between(16)", x, x.between(16), -1, 2);
        C.due("29 between(-1)", x, x.between(-1), -1, 2);
        C.due("30 unparted()", x, x.unparted(), 1, 0);
        C.due("30 a shelling", Samples.sphere().unparted(), 0);
        C.due("27 places, not numbers", x.move(0, 2), 3);
        C.due("27 cell(1) then", x.cell(1), 2);
        C.due("28 fresh(2) then", x.fresh(2), 2);
        C.due("30 then", x.unparted(), 0);
        ShellPeel none = Samples.none();
        C.due("27 no complex", none, none.cell(-1), -1, 1);
        C.due("28 no complex", none, none.fresh(0), -1, 1);
        C.due("29 no complex", none, none.between(-1), -1, 1);
        C.due("30 no complex", none, none.unparted(), -1, 1);
    }

    // Promises 32, 33, 34, 35
    private static void leaps() {
        ShellPeel x = Samples.path();
        C.due("32 swaps()", x, x.swaps(), 2, 0);
        C.due("32 sphere", Samples.sphere().swaps(), 7);
        C.due("32 one facet", Samples.lone().swaps(), 0);
        C.due("32 leaves the order", x.ordered(1), 1);
        C.due("33 leaps(0)", x, x.leaps(0), 0, 0);
        C.due("33 leaps(1)", x, x.leaps(1), 1, 0);
        C.due("33 leaps(2)", x, x.leaps(2), 2, 0);
        C.due("33 leaps(3)", x, x.leaps(3), -1, 1);
        C.due("33 leaps(-1)", x, x.leaps(-1), -1, 1);
        C.due("34 leap(0, 0)", x, x.leap(0, 0), -1, 1);
        C.due("34 leap(1, 0)", x, x.leap(1, 0), 12, 0);
        C.due("34 leap(2, 1)", x, x.leap(2, 1), 4, 0);
        C.due("34 leap(2, 2)", x, x.leap(2, 2), -1, 1);
        C.due("34 leap(2, -1)", x, x.leap(2, -1), -1, 1);
        C.due("34 leap(3, 0)", x, x.leap(3, 0), -1, 1);
        C.due("34 leap(-1, 0)", x, x.leap(-1, 0), -1, 1);
        C.due("35 linear()", x, x.linear(), 0, 0);
        C.due("35 sphere", Samples.sphere().linear(), 1);
        C.due("35 one facet", Samples.lone().linear(), 1);
        // The same leap from two facets ahead counts once.
        ShellPeel t = Checks.made(4, 2, "ab ac ad");
        C.due("33 each set once", t.leaps(2), 1);
        C.due("34 that one", t.leap(2, 0), 8);
        ShellPeel none = Samples.none();
        C.due("32 no complex", none, none.swaps(), -1, 1);
        C.due("33 no complex", none, none.leaps(0), -1, 1);
        C.due("34 no complex", none, none.leap(0, 0), -1, 1);
        C.due("35 no complex", none, none.linear(), -1, 1);
    }

    // Promises 36, 37, 38
    private static void allOrders() {
        C.due("36 path", Samples.path().shellings(), 4);
        C.due("36 square", Samples.square().shellings(), 16);
        C.due("36 sphere", Samples.sphere().shellings(), 24);
        C.due("36 bowtie", Samples.bowtie().shellings(), 0);
        C.due("36 lone", Samples.lone().shellings(), 1);
        C.due("36 projective", Samples.projective().shellings(), 0);
        C.due("36 blocked", Samples.blocked().shellings(), 2496);
        C.due("36 firm", Samples.firm().shellings(), 41320);
        C.due("36 seven dots", Checks.made(7, 1, "a b c d e f g").shellings(), 5040);
        C.due("36 a star", Checks.made(7, 2, "ab ac ad ae af ag").shellings(), 720);
        C.due("36 simplex's boundary", Checks.made(6, 5, "abcde abcdf abcef abdef acdef bcdef").shellings(), 720);
        ShellPeel x = Samples.path();
        int[] least = {0, 2, 1};
        for (int place = 0; place < 3; place++) {
            C.due("37 shelled(" + place + ")", x, x.shelled(place), least[place], 0);
        }
        C.due("37 shelled(3)", x, x.shelled(3), -1, 1);
        C.due("37 shelled(-1)", x, x.shelled(-1), -1, 1);
        ShellPeel b = Samples.bowtie();
        C.due("37 none", b, b.shelled(1), -2, 0);
        C.due("37 none and no such place", b, b.shelled(2), -1, 1);
        C.due("38 path", x, x.peelable(), 3, 0);
        C.due("38 square", Samples.square().peelable(), 15);
        C.due("38 bowtie", b, b.peelable(), 0, 0);
        C.due("38 lone", Samples.lone().peelable(), 1);
        ShellPeel none = Samples.none();
        C.due("36 no complex", none, none.shellings(), -1, 1);
        C.due("37 no complex", none, none.shelled(0), -1, 1);
        C.due("38 no complex", none, none.peelable(), -1, 1);
    }

    // Promises 39, 40
    private static void beginnings() {
        ShellPeel x = Samples.path();
        int[] on = {4, 1, 0, 0};
        for (int n = 0; n <= 3; n++) {
            C.due("39 goesOn(" + n + ")", x, x.goesOn(n), on[n], 0);
        }
        C.due("39 goesOn(4)", x, x.goesOn(4), -1, 2);
        C.due("39 goesOn(-1)", x, x.goesOn(-1), -1, 2);
        C.due("39 a shelling", Samples.sphere().goesOn(4), 1);
        C.due("39 a shelling but the last two", Samples.sphere().goesOn(2), 2);
        // In another order: what is asked is the order, not the numbers.
        C.due("39 moved", x.move(2, 0), 3);
        C.due("39 goesOn(1) then", x.goesOn(1), 2);
        C.due("40 path", x, x.stuck(), -2, 0);
        C.due("40 no shelling at all", Samples.bowtie().stuck(), 0);
        ShellPeel b = Samples.blocked();
        C.due("40 blocked", b, b.stuck(), 400, 0);
        C.due("40 lone", Samples.lone().stuck(), -2);
        // 562 is less than 578, but has more facets; 2210 is the least of two that have as few.
        C.due("40 fewest", Checks.made(6, 3, "cdf bcd cef ace abe abd bde acf adf bef").stuck(), 578);
        C.due("40 of several the least", Checks.made(7, 3, "aeg acg ceg cfg abe afg abd adf bce bcd cde def").stuck(), 2210);
        // 400 is ace, cef, acd: each of them joins, and two of them go on, but not all three.
        b.move(4, 0);
        b.move(7, 1);
        b.move(8, 2);
        C.due("39 all three join", b.goesOn(0) > 0 && b.joins(1) == 1 && b.joins(2) == 1 ? 1 : 0, 1);
        C.due("39 two go on", b.goesOn(2) > 0 ? 1 : 0, 1);
        C.due("39 a beginning that goes no further", b.goesOn(3), 0);
        ShellPeel none = Samples.none();
        C.due("39 no complex", none, none.goesOn(-1), -1, 1);
        C.due("40 no complex", none, none.stuck(), -1, 1);
    }

    // Promise 41
    private static void draws() {
        ShellPeel x = Samples.path();
        // 74 mod 3 is 2: the middle edge goes first, and the other two stay.
        C.due("41 peeled(0)", x, x.peeled(0), 2, 0);
        // 149 mod 3 is 2, 224 mod 3 is 2; 65,536 gives 75 times -1 and 74, which is 65,536: 1 mod 3.
        C.due("41 peeled(1)", x, x.peeled(1), 2, 0);
        C.due("41 peeled(65536)", x, x.peeled(65536), 1, 0);
        C.due("41 peeled(65537)", x, x.peeled(65537), -1, 2);
        C.due("41 peeled(-1)", x, x.peeled(-1), -1, 2);
        C.due("41 peeled(MOST)", x, x.peeled(MOST), -1, 2);
        C.due("41 nothing changes", x, x.about(2), 3, 0);
        C.due("41 lone", Samples.lone().peeled(9), 1);
        C.due("41 bowtie", Samples.bowtie().peeled(9), 2);
        ShellPeel none = Samples.none();
        C.due("41 no complex", none, none.peeled(-1), -1, 1);
    }

    // Promises 42, 43, 44
    private static void links() {
        ShellPeel x = Samples.bowtie();
        C.due("42 link(0)", x, x.link(0), 2, 0);
        C.due("42 link(4)", x, x.link(4), 2, 0);
        C.due("42 link(3)", x, x.link(3), 1, 0);
        C.due("42 no face", x, x.link(9), -1, 5);
        C.due("42 link(32)", x, x.link(32), -1, 2);
        C.due("42 link(-1)", x, x.link(-1), -1, 2);
        C.due("43 linkRound(4, 1)", x, x.linkRound(4, 1), 1, 0);
        C.due("43 linkRound(4, 2)", x, x.linkRound(4, 2), 0, 0);
        C.due("43 linkRound(4, 3)", x, x.linkRound(4, 3), -1, 2);
        C.due("43 linkRound(4, -1)", x, x.linkRound(4, -1), -1, 2);
        C.due("43 a facet's", x, x.linkRound(7, 0), 1, 0);
        C.due("43 a facet's, 1", x, x.linkRound(7, 1), -1, 2);
        C.due("43 no face and no k", x, x.linkRound(9, 9), -1, 5);
        C.due("43 linkRound(32, 9)", x, x.linkRound(32, 9), -1, 2);
        C.due("43 linkRound(0, 3)", x, x.linkRound(0, 3), 0, 0);
        C.due("44 linkShellings(4)", x, x.linkShellings(4), 0, 0);
        C.due("44 linkShellings(1)", x, x.linkShellings(1), 1, 0);
        C.due("44 linkShellings(7)", x, x.linkShellings(7), 1, 0);
        C.due("44 no face", x, x.linkShellings(9), -1, 5);
        C.due("44 linkShellings(32)", x, x.linkShellings(32), -1, 2);
        C.due("44 linkShellings(-1)", x, x.linkShellings(-1), -1, 2);
        C.due("44 sphere, a point", Samples.sphere().linkShellings(1), 6);
        C.due("44 sphere, all", Samples.sphere().linkShellings(0), 24);
        ShellPeel none = Samples.none();
        C.due("42 no complex", none, none.link(-1), -1, 1);
        C.due("43 no complex", none, none.linkRound(-1, -1), -1, 1);
        C.due("44 no complex", none, none.linkShellings(-1), -1, 1);
    }

    // Promises 45, 46
    private static void obstructions() {
        C.due("45 sphere", Samples.sphere().even(), 1);
        C.due("45 bowtie", Samples.bowtie().even(), 0);
        C.due("45 projective", Samples.projective().even(), 0);
        C.due("45 lone", Samples.lone().even(), 1);
        C.due("45 dots", Samples.dots().even(), 1);
        C.due("45 two edges apart", Checks.made(4, 2, "ab cd").even(), 0);
        C.due("46 sphere", Samples.sphere().obstruction(), -2);
        C.due("46 bowtie: its middle", Samples.bowtie().obstruction(), 4);
        C.due("46 projective: the empty set", Samples.projective().obstruction(), 0);
        // Both c and e stand in the way here.
        C.due("46 of several the least", Checks.made(7, 3, "abc cde efg").obstruction(), 4);
        ShellPeel b = Samples.bowtie();
        b.obstruction();
        C.due("46 trouble()", b.trouble(), 0);
        ShellPeel none = Samples.none();
        C.due("45 no complex", none, none.even(), -1, 1);
        C.due("46 no complex", none, none.obstruction(), -1, 1);
    }

    // Promises 47, 48, 49
    private static void shedding() {
        ShellPeel x = Samples.path();
        C.due("47 path", x, x.fallsApart(), 1, 0);
        C.due("48 path", x, x.shed(), 9, 0);
        C.due("49 path", x, x.first(), 0, 0);
        ShellPeel b = Samples.bowtie();
        C.due("47 bowtie", b, b.fallsApart(), 0, 0);
        C.due("48 bowtie", b, b.shed(), 0, 0);
        C.due("49 bowtie", b, b.first(), -2, 0);
        C.due("47 one facet", Samples.lone().fallsApart(), 1);
        C.due("48 one facet", Samples.lone().shed(), 0);
        C.due("49 one facet", Samples.lone().first(), -2);
        C.due("47 dots", Samples.dots().fallsApart(), 1);
        C.due("48 dots", Samples.dots().shed(), 7);
        C.due("47 square", Samples.square().fallsApart(), 1);
        C.due("48 square", Samples.square().shed(), 15);
        // A point can be shed here, but what is left doesn't fall apart.
        C.due("47 firm", Samples.firm().fallsApart(), 0);
        C.due("48 firm", Samples.firm().shed(), 8);
        C.due("49 firm", Samples.firm().first(), -2);
        C.due("49 not point a", Checks.made(4, 2, "ab ac ad").first(), 1);
        ShellPeel none = Samples.none();
        C.due("47 no complex", none, none.fallsApart(), -1, 1);
        C.due("48 no complex", none, none.shed(), -1, 1);
        C.due("49 no complex", none, none.first(), -1, 1);
    }

    // Promise 50
    private static void adding() {
        ShellPeel none = Samples.none();
        C.due("50 no complex", none, none.add(3), -1, 1);
        ShellPeel x = Samples.path();
        C.due("50 one point more", x, x.add(7), -1, 2);
        C.due("50 one point less", x, x.add(1), -1, 2);
        C.due("50 no point of it", x, x.add(17), -1, 2);
        C.due("50 less than 0", x, x.add(-1), -1, 2);
        C.due("50 two bits, the sign one of them", x, x.add(LEAST | 1), -1, 2);
        C.due("50 it is one", x, x.add(12), -1, 5);
        x.move(0, 2);
        C.due("50 more", x, x.add(9), 4, 0);
        C.due("50 its number", x.facet(3), 9);
        C.due("50 its place", x.ordered(3), 3);
        C.due("50 the order else", x.ordered(2), 0);
        C.due("50 shellings() then", x.shellings(), 16);
        ShellPeel f = Samples.full();
        C.due("50 it is one, ahead of no room", f, f.add(3), -1, 5);
        C.due("50 a number, ahead of no room", f, f.add(7), -1, 2);
        C.due("50 no room", f, f.add(96), -1, 3);
        C.due("50 stays", f.about(2), 12);
        f.drop(0);
        C.due("50 room again", f, f.add(96), 12, 0);
    }

    // Promises 51, 52
    private static void taking() {
        ShellPeel none = Samples.none();
        C.due("51 no complex", none, none.drop(0), -1, 1);
        C.due("52 no complex", none, none.peel(), -1, 1);
        ShellPeel x = Samples.sphere();
        x.move(3, 0);
        C.due("51 drop(4)", x, x.drop(4), -1, 1);
        C.due("51 drop(-1)", x, x.drop(-1), -1, 1);
        C.due("51 drop(1)", x, x.drop(1), 3, 0);
        C.due("51 those behind are one less", x.facet(1), 13);
        C.due("51 the order", x.ordered(0), 2);
        C.due("51 the order", x.ordered(1), 0);
        C.due("51 the order", x.ordered(2), 1);
        C.due("51 no more", x.ordered(3), -1);
        C.due("52 peel()", x, x.peel(), 13, 0);
        C.due("52 the order", x.ordered(0), 1);
        C.due("52 the order", x.ordered(1), 0);
        C.due("52 peel()", x, x.peel(), 7, 0);
        C.due("52 the only one", x, x.peel(), -1, 5);
        C.due("51 the only one", x, x.drop(0), -1, 5);
        C.due("51 none such, ahead of the only one", x, x.drop(1), -1, 1);
        C.due("52 it stays", x.facet(0), 14);
        C.due("52 shellings() then", x.shellings(), 1);
    }

    // Promises 53, 54
    private static void placing() {
        ShellPeel none = Samples.none();
        C.due("53 no complex", none, none.move(0, 0), -1, 1);
        C.due("54 no complex", none, none.lay(), -1, 1);
        ShellPeel x = Samples.square();
        C.due("53 move(0, 2)", x, x.move(0, 2), 4, 0);
        int[] due = {1, 2, 0, 3};
        for (int place = 0; place < 4; place++) {
            C.due("53 ordered(" + place + ")", x.ordered(place), due[place]);
        }
        C.due("53 move(3, 1)", x, x.move(3, 1), 1, 0);
        int[] then = {1, 3, 2, 0};
        for (int place = 0; place < 4; place++) {
            C.due("53 ordered(" + place + ")", x.ordered(place), then[place]);
        }
        C.due("53 to itself", x, x.move(1, 1), 1, 0);
        C.due("53 move(4, 0)", x, x.move(4, 0), -1, 1);
        C.due("53 move(0, 4)", x, x.move(0, 4), -1, 1);
        C.due("53 move(-1, 0)", x, x.move(-1, 0), -1, 1);
        C.due("53 move(0, -1)", x, x.move(0, -1), -1, 1);
        C.due("54 lay()", x, x.lay(), 16, 0);
        for (int place = 0; place < 4; place++) {
            C.due("54 ordered(" + place + ")", x.ordered(place), place);
        }
        ShellPeel p = Samples.path();
        C.due("54 path", p, p.lay(), 4, 0);
        C.due("54 the least", p.ordered(1), 2);
        ShellPeel b = Samples.bowtie();
        b.move(0, 1);
        C.due("54 there is none", b, b.lay(), -1, 5);
        C.due("54 the order stays", b.ordered(0), 1);
    }

    // Promise 55
    private static void turning() {
        ShellPeel none = Samples.none();
        C.due("55 no complex", none, none.turn(0, 1), -1, 1);
        ShellPeel x = Samples.path();
        C.due("55 turn(0, 3)", x, x.turn(0, 3), 2, 0);
        C.due("55 facet(0)", x.facet(0), 10);
        C.due("55 facet(1)", x.facet(1), 5);
        C.due("55 facet(2)", x.facet(2), 6);
        C.due("55 within() then", x.within(9), 0);
        C.due("55 missing() then", x.missing(0), 3);
        C.due("55 turn(1, 1)", x, x.turn(1, 1), -1, 1);
        C.due("55 turn(0, 4)", x, x.turn(0, 4), -1, 1);
        C.due("55 turn(4, 0)", x, x.turn(4, 0), -1, 1);
        C.due("55 turn(-1, 0)", x, x.turn(-1, 0), -1, 1);
        C.due("55 turn(0, -1)", x, x.turn(0, -1), -1, 1);
        ShellPeel s = Samples.lone();
        C.due("55 changes nothing", s, s.turn(0, 2), 0, 0);
        ShellPeel i = Samples.idle();
        C.due("55 with a point in no facet", i, i.turn(1, 3), 1, 0);
        C.due("55 then", i.facet(0), 9);
        // What falls apart and what is shelled is told anew.
        ShellPeel f = Checks.made(4, 2, "ab ac ad");
        C.due("49 ahead of it", f.first(), 1);
        f.turn(0, 1);
        C.due("49 behind it", f.first(), 0);
    }

    // Promise 56
    private static void breaks() {
        ShellPeel x = Samples.path();
        C.due("8 ahead of it", x, x.within(99), -1, 2);
        C.dueBreak("56 breaks(0)", x, 0, 1);
        C.dueBreak("56 breaks(1)", x, 1, -99);
        C.dueBreak("56 breaks(-1)", x, -1, -99);
        C.dueBreak("56 breaks(LEAST)", x, LEAST, -99);
        C.due("56 trouble() as it was", x.trouble(), 2);
        C.dueBreak("56 no complex", Samples.none(), 0, -99);
        C.dueBreak("56 a shelling", Samples.sphere(), 0, -99);
        ShellPeel y = Checks.made(7, 3, "abc cde efg");
        C.dueBreak("56 breaks(0)", y, 0, 1);
        C.dueBreak("56 breaks(1)", y, 1, 2);
        C.dueBreak("56 breaks(2)", y, 2, -99);
    }

    // Promise 58, and 5 beside it
    private static void troubles() {
        ShellPeel x = Samples.path();
        x.add(3);
        C.due("58 stands", x.trouble(), 5);
        C.due("58 stands by itself", x.trouble(), 5);
        x.feed(0, 0, 0, 0, 0);
        x.size();
        x.fault();
        x.where();
        C.due("58 by calls that can't be refused", x.trouble(), 5);
        x.good();
        C.due("58 by one that wasn't", x.trouble(), 0);
        x.complex(1);
        C.due("58 a fault", x.trouble(), 4);
        C.due("5 its place", x.where(), 0);
        x.feed(0, 0, 0, 0, 0);
        C.due("5 feed leaves it", x.where(), 0);
        C.dueBreak("56 leaves it", x, 7, -99);
        C.due("5 breaks leaves it", x.where(), 0);
        x.mean();
        C.due("58 mean()", x.trouble(), 0);
        C.due("5 gone", x.where(), -1);
    }
}
