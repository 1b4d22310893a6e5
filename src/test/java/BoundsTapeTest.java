import java.util.LinkedHashMap;
import java.util.Map;

/** Boundary cases of a new object, THE TAPE and the calls that read it (promises 1 to 5, 57, 58). */
public final class BoundsTapeTest {
    private static final Bounds B = new Bounds();
    private static final int NONE = Bounds.NONE;
    private static final int LEAST = Bounds.LEAST;
    private static final int MOST = Bounds.MOST;
    private static final int BLANKS = 0x20202020;
    private static final String PATH = "complex points 4 size 2;facet ab;facet cd;facet bc";

    public static void main(String[] args) throws Exception {
        B.runAll(BoundsTapeTest.class);
    }

    /** One byte among blanks, fed so that it stands at a place. */
    private static ShellPeel fedAt(int place, int sign) {
        ShellPeel x = new ShellPeel();
        for (int from = 0; from <= place; from += 20) {
            int[] words = {BLANKS, BLANKS, BLANKS, BLANKS, BLANKS};
            if (place < from + 20) {
                int at = place - from;
                int shift = 24 - 8 * (at % 4);
                words[at / 4] = words[at / 4] & ~(255 << shift) | sign << shift;
            }
            x.feed(words[0], words[1], words[2], words[3], words[4]);
        }
        return x;
    }

    /** 200 bytes, the last of them a letter that the complex needs. */
    private static String wholeTape() {
        StringBuilder text = new StringBuilder("complex points 4 size 2");
        while (text.length() < 191) {
            text.append(' ');
        }
        return text.append(";facet ab").toString();
    }

    private static ShellPeel fullTape() {
        ShellPeel x = Samples.moved();
        Checks.feed(x, wholeTape());
        return x;
    }

    /** Every call that needs a COMPLEX, with numbers that are good where there is one. */
    private static Map<String, Bounds.Call> needing() {
        Map<String, Bounds.Call> calls = new LinkedHashMap<>();
        calls.put("about(0)", x -> x.about(0));
        calls.put("facet(0)", x -> x.facet(0));
        calls.put("within(0)", x -> x.within(0));
        calls.put("missing(0)", x -> x.missing(0));
        calls.put("faces(0)", x -> x.faces(0));
        calls.put("rank(0)", x -> x.rank(0));
        calls.put("round(0)", x -> x.round(0));
        calls.put("dual(0)", x -> x.dual(0));
        calls.put("dualRound(0)", x -> x.dualRound(0));
        calls.put("near(0)", x -> x.near(0));
        calls.put("apart(0, 0)", x -> x.apart(0, 0));
        calls.put("ordered(0)", x -> x.ordered(0));
        calls.put("joins(0)", x -> x.joins(0));
        calls.put("restricted(0)", x -> x.restricted(0));
        calls.put("good()", x -> x.good());
        calls.put("sized(0)", x -> x.sized(0));
        calls.put("spanning(0)", x -> x.spanning(0));
        calls.put("cycle(0)", x -> x.cycle(0));
        calls.put("cell(0)", x -> x.cell(0));
        calls.put("fresh(0)", x -> x.fresh(0));
        calls.put("between(0)", x -> x.between(0));
        calls.put("unparted()", x -> x.unparted());
        calls.put("rebuilt(0)", x -> x.rebuilt(0));
        calls.put("swaps()", x -> x.swaps());
        calls.put("leaps(0)", x -> x.leaps(0));
        calls.put("leap(0, 0)", x -> x.leap(0, 0));
        calls.put("linear()", x -> x.linear());
        calls.put("shellings()", x -> x.shellings());
        calls.put("shelled(0)", x -> x.shelled(0));
        calls.put("peelable()", x -> x.peelable());
        calls.put("goesOn(0)", x -> x.goesOn(0));
        calls.put("stuck()", x -> x.stuck());
        calls.put("peeled(0)", x -> x.peeled(0));
        calls.put("link(0)", x -> x.link(0));
        calls.put("linkRound(0, 0)", x -> x.linkRound(0, 0));
        calls.put("linkShellings(0)", x -> x.linkShellings(0));
        calls.put("even()", x -> x.even());
        calls.put("obstruction()", x -> x.obstruction());
        calls.put("fallsApart()", x -> x.fallsApart());
        calls.put("shed()", x -> x.shed());
        calls.put("first()", x -> x.first());
        calls.put("add(1)", x -> x.add(1));
        calls.put("drop(0)", x -> x.drop(0));
        calls.put("peel()", x -> x.peel());
        calls.put("move(0, 0)", x -> x.move(0, 0));
        calls.put("lay()", x -> x.lay());
        calls.put("turn(0, 1)", x -> x.turn(0, 1));
        return calls;
    }

    // Promise 1: "No COMPLEX."
    static void promise01NoCallFindsAComplex() {
        needing().forEach((name, call) -> B.refuses("new: " + name, Samples::none, call, NONE, 1));
        B.refuses("new: h(0)", Samples::none, x -> x.h(0), LEAST, 1);
        B.refuses("new: euler()", Samples::none, x -> x.euler(), LEAST, 1);
        B.refuses("new: mean()", Samples::none, x -> x.mean() == -1.0 ? 1 : 0, 1, 1);
        B.leaves("new: breaks(0)", Samples::none, x -> Bounds.broken(x, 0), Bounds.THROWS);
    }

    // Promise 1: "No COMPLEX."
    static void promise01NothingElseIsThereEither() {
        B.due("new: size()", new ShellPeel().size(), 0);
        B.due("new: fault()", new ShellPeel().fault(), 0);
        B.due("new: where()", new ShellPeel().where(), NONE);
        B.due("new: trouble()", new ShellPeel().trouble(), 0);
        ShellPeel one = Samples.path();
        ShellPeel other = new ShellPeel();
        B.due("new beside another: about(0)", other.about(0), NONE);
        B.due("the other then: about(0)", one.about(0), 4);
    }

    // Promise 1: "No COMPLEX."
    static void promise01NoComplexStillBehindAFault() {
        ShellPeel x = new ShellPeel();
        Checks.tell(x, "complex points 4 size 2");
        B.due("behind a fault: about(0)", x.about(0), NONE);
        B.due("behind a fault: trouble()", x.trouble(), 1);
        Checks.tell(x, PATH + ";facet ab");
        B.due("behind a late fault: facet(0)", x.facet(0), NONE);
        B.due("behind a late fault: turn(0, 1)", x.turn(0, 1), NONE);
        B.due("behind a late fault: add(3)", x.add(3), NONE);
        B.due("behind a late fault: trouble()", x.trouble(), 1);
    }

    // Promise 2: "Twenty bytes come behind THE TAPE, of each number the highest first: how many it has;"
    static void promise02EachByteHasItsPlace() {
        for (int place = 0; place < 200; place++) {
            for (int sign : new int[] {'#', 0, 127, 128, 255}) {
                ShellPeel x = fedAt(place, sign);
                B.due("byte " + sign + " at " + place + ": complex()", x.complex(place + 1), NONE);
                B.due("byte " + sign + " at " + place + ": fault()", x.fault(), 1);
                B.due("byte " + sign + " at " + place + ": where()", x.where(), place);
            }
        }
    }

    // Promise 2: "Twenty bytes come behind THE TAPE, of each number the highest first: how many it has;"
    static void promise02FromEmptyToFull() {
        ShellPeel x = new ShellPeel();
        for (int fed = 1; fed <= 10; fed++) {
            B.due("feed, the " + fed + "th", x.feed(LEAST, MOST, -1, 0, 1), 20 * fed);
            B.due("size() then", x.size(), 20 * fed);
        }
    }

    // Promise 2: "NONE, and none comes, if there would be more than 200."
    static void promise02NoneBeyondTheWholeTape() {
        ShellPeel x = fullTape();
        B.due("feed at 200", x.feed(-1, -1, -1, -1, -1), NONE);
        B.due("feed at 200 once more", x.feed(BLANKS, BLANKS, BLANKS, BLANKS, BLANKS), NONE);
        B.due("size() then", x.size(), 200);
        B.due("no byte has changed: complex(200)", x.complex(200), 1);
        B.due("empty again: feed", x.feed(0, 0, 0, 0, 0), 20);
    }

    // Promise 2: "NONE, and none comes, if there would be more than 200."
    static void promise02ARefusedFeedTellsNoNumber() {
        ShellPeel x = fullTape();
        x.about(-1);
        B.due("feed at 200", x.feed(0, 0, 0, 0, 0), NONE);
        B.due("trouble() as it was", x.trouble(), 1);
        x.good();
        B.due("feed at 200", x.feed(0, 0, 0, 0, 0), NONE);
        B.due("trouble() 0 as it was", x.trouble(), 0);
        B.due("fault() as it was", x.fault(), 0);
        B.checks.due("the order as it was", Bounds.order(x), "1 2 0");
        ShellPeel y = new ShellPeel();
        y.complex(0);
        Checks.feed(y, wholeTape());
        B.due("feed at 200", y.feed(0, 0, 0, 0, 0), NONE);
        B.due("trouble() 4 as it was", y.trouble(), 4);
        B.due("where() as it was", y.where(), 0);
    }

    // Promise 3: "The first n bytes of THE TAPE (it is empty then) are the COMPLEX from now on: how many FACETS."
    static void promise03TheFirstBytesAlone() {
        ShellPeel x = new ShellPeel();
        Checks.feed(x, PATH);
        B.due("complex(41) of 60", x.complex(41), 2);
        B.due("trouble() then", x.trouble(), 0);
        B.due("where() then", x.where(), NONE);
        B.due("fault() then", x.fault(), 0);
        B.due("all of the tape goes: size()", x.size(), 0);
        B.dueRows("two of three", x, "ab cd", "0 1");
        ShellPeel y = new ShellPeel();
        Checks.feed(y, PATH, 'a');
        B.due("a word ends at n: complex(50)", y.complex(50), 3);
        ShellPeel z = new ShellPeel();
        Checks.feed(z, "complex points 1 size 1;facet a");
        B.due("the fewest facets: complex(31)", z.complex(31), 1);
        B.due("the most facets", Samples.full().about(2), 12);
    }

    // Promise 3: "The first n bytes of THE TAPE (it is empty then) are the COMPLEX from now on: how many FACETS."
    static void promise03TheWholeTape() {
        ShellPeel x = fullTape();
        B.due("complex(200)", x.complex(200), 1);
        B.due("size() then", x.size(), 0);
        B.dueRows("the new one alone", x, "ab", "0");
        ShellPeel y = fullTape();
        B.due("complex(199): a letter less", y.complex(199), NONE);
        B.due("fault() then", y.fault(), 3);
        B.due("where() then", y.where(), 198);
    }

    // Promise 3: "The first n bytes of THE TAPE (it is empty then) are the COMPLEX from now on: how many FACETS."
    static void promise03NothingOfAnEarlierOneStays() {
        ShellPeel x = Samples.full();
        x.move(0, 11);
        x.shellings();
        x.fallsApart();
        B.due("complex()", Checks.tell(x, PATH), 3);
        B.checks.due("as a new one", Bounds.state(x), Bounds.state(Samples.path()));
        B.due("and back", Checks.tell(x, Checks.text(7, 5, "abcde")), 1);
        B.due("within(31)", x.within(31), 1);
        B.due("within(127)", x.within(127), 0);
        ShellPeel y = Samples.bowtie();
        Bounds.state(y);
        B.due("as many facets: complex()", Checks.tell(y, Checks.text(5, 3, "abc abd")), 2);
        B.checks.due("as a new one", Bounds.state(y), Bounds.state(Checks.made(5, 3, "abc abd")));
        B.due("and back: complex()", Checks.tell(y, Checks.text(5, 3, "abc cde")), 2);
        B.checks.due("as a new one", Bounds.state(y), Bounds.state(Samples.bowtie()));
    }

    // Promise 3: "NONE: 2 (n; THE TAPE stays);"
    static void promise03NOutOfBounds() {
        B.refusesAll("complex, 20 bytes fed", Samples::moved, (x, n) -> x.complex(n),
            new int[] {-1, 21, -20, 65556, LEAST, LEAST + 20, MOST}, NONE, 2);
        B.refusesAll("new: complex, 20 bytes fed", Samples::none, (x, n) -> x.complex(n), new int[] {-1, 21}, NONE, 2);
        ShellPeel x = new ShellPeel();
        B.due("an empty tape: complex(1)", x.complex(1), NONE);
        B.due("trouble() then", x.trouble(), 2);
        B.due("complex(0) isn't refused by that", x.complex(0), NONE);
        B.due("trouble() then", x.trouble(), 4);
    }

    // Promise 3: "NONE: 2 (n; THE TAPE stays);"
    static void promise03TheFullTapeStays() {
        ShellPeel x = fullTape();
        B.due("complex(201)", x.complex(201), NONE);
        B.due("trouble() then", x.trouble(), 2);
        B.due("where() then", x.where(), NONE);
        B.due("size() then", x.size(), 200);
        B.dueRows("the complex then", x, "ab cd bc", "1 2 0");
        B.due("complex(-1)", x.complex(-1), NONE);
        B.due("size() then", x.size(), 200);
        B.due("its bytes stay: complex(200)", x.complex(200), 1);
    }

    // Promise 3: "4 (the COMPLEX stays, as it is)."
    static void promise03AFaultLeavesTheComplex() {
        String[] texts = {"", "#", PATH + ";facet ab", "complex points 8", "complex points 7 size 3", "facet ab"};
        for (String text : texts) {
            ShellPeel x = Samples.moved();
            ShellPeel twin = Samples.moved();
            B.due("'" + text + "': complex()", Checks.tell(x, text), NONE);
            B.due("'" + text + "': trouble()", x.trouble(), 4);
            B.due("'" + text + "': the tape is empty", x.size(), 0);
            twin.complex(0);
            String due = Bounds.state(twin).replaceFirst("0 1 about", "0 " + x.fault() + " about");
            B.checks.due("'" + text + "': the state", Bounds.state(x), due);
            B.due("'" + text + "': it goes on from there, add(9)", x.add(9), 4);
        }
    }

    // Promise 3: "4 (the COMPLEX stays, as it is)."
    static void promise03NoByteIsAFaultToo() {
        ShellPeel x = Samples.moved();
        Checks.feed(x, PATH);
        B.due("complex(0) of 60 bytes", x.complex(0), NONE);
        B.due("trouble() then", x.trouble(), 4);
        B.due("fault() then", x.fault(), 1);
        B.due("where() then", x.where(), 0);
        B.due("the tape is empty then", x.size(), 0);
        B.due("and nothing to read: complex(1)", x.complex(1), NONE);
        B.due("trouble() then", x.trouble(), 2);
        Checks.feed(x, "   " + PATH);
        B.due("complex(0), a blank first", x.complex(0), NONE);
        B.due("where() then", x.where(), 0);
    }

    // Promise 4: "The FAULT of the latest complex() not refused by 2; 0 without one."
    static void promise04WhichFault() {
        ShellPeel x = new ShellPeel();
        B.due("new: fault()", x.fault(), 0);
        x.complex(1);
        B.due("refused by 2 alone: fault()", x.fault(), 0);
        Checks.tell(x, "complex points 8");
        B.due("behind a fault: fault()", x.fault(), 2);
        x.complex(1);
        B.due("behind a refusal by 2: fault()", x.fault(), 2);
        x.complex(0);
        B.due("behind another fault: fault()", x.fault(), 1);
        Checks.tell(x, PATH);
        B.due("behind none: fault()", x.fault(), 0);
        x.complex(-1);
        B.due("behind none and a refusal by 2: fault()", x.fault(), 0);
    }

    // Promise 4: "The FAULT of the latest complex() not refused by 2; 0 without one."
    static void promise04OtherCallsLeaveIt() {
        ShellPeel x = Samples.path();
        Checks.tell(x, "facet ab");
        x.feed(0, 0, 0, 0, 0);
        x.about(0);
        x.about(-1);
        x.add(9);
        x.lay();
        x.drop(0);
        Bounds.broken(x, 0);
        B.due("fault() stays", x.fault(), 6);
        B.leaves("fault()", Samples::moved, y -> y.fault() >= 0 ? 1 : 0, 1);
    }

    // Promise 5: "Its place, if the latest call that may be refused was by 4; NONE else."
    static void promise05WhereFirstAndLast() {
        ShellPeel x = new ShellPeel();
        B.due("new: where()", x.where(), NONE);
        x.complex(0);
        B.due("at the first place: where()", x.where(), 0);
        B.due("and again: where()", x.where(), 0);
        for (int fed = 0; fed < 10; fed++) {
            x.feed(BLANKS, BLANKS, BLANKS, BLANKS, BLANKS);
        }
        B.due("feed leaves it: where()", x.where(), 0);
        x.complex(200);
        B.due("at the end of the whole tape: where()", x.where(), 200);
        Checks.tell(x, PATH);
        B.due("behind one not refused: where()", x.where(), NONE);
    }

    // Promise 5: "Its place, if the latest call that may be refused was by 4; NONE else."
    static void promise05NoneBehindAnyOtherRefusal() {
        needing().forEach((name, call) -> {
            ShellPeel x = new ShellPeel();
            x.complex(0);
            call.on(x);
            B.due("refused " + name + ": where()", x.where(), NONE);
            ShellPeel y = Samples.dots();
            Checks.tell(y, "complex points 8");
            B.due("a fault: where()", y.where(), 15);
            call.on(y);
            B.due("behind " + name + ": where()", y.where(), NONE);
        });
        ShellPeel x = Samples.full();
        x.complex(0);
        x.add(96);
        B.due("behind no room: where()", x.where(), NONE);
        x.complex(0);
        x.complex(1);
        B.due("behind complex() refused by 2: where()", x.where(), NONE);
        x.complex(0);
        x.h(-1);
        B.due("behind h(-1): where()", x.where(), NONE);
        x.complex(0);
        x.mean();
        B.due("behind mean(): where()", x.where(), NONE);
    }

    // Promise 5: "Its place, if the latest call that may be refused was by 4; NONE else."
    static void promise05CallsThatTellNoNumberLeaveIt() {
        B.leaves("where()", Samples::moved, x -> x.where() <= 0 ? 1 : 0, 1);
        B.leaves("size()", Samples::moved, x -> x.size() >= 0 ? 1 : 0, 1);
        B.leaves("trouble()", Samples::moved, x -> x.trouble() > 0 ? 1 : 0, 1);
        B.leaves("breaks(0), thrown", Samples::moved, x -> Bounds.broken(x, 0), Bounds.THROWS);
        B.leaves("breaks(0), told", Samples::path, x -> Bounds.broken(x, 0), 1);
    }

    // Promise 57: "Bytes of THE TAPE."
    static void promise57HowManyBytes() {
        ShellPeel x = new ShellPeel();
        B.due("new: size()", x.size(), 0);
        x.feed(0, 0, 0, 0, 0);
        B.due("fed: size()", x.size(), 20);
        x.complex(21);
        B.due("refused by 2: size()", x.size(), 20);
        x.complex(20);
        B.due("refused by 4: size()", x.size(), 0);
        Checks.feed(x, PATH);
        B.due("fed thrice: size()", x.size(), 60);
        x.add(3);
        x.peel();
        B.due("by other calls: size()", x.size(), 60);
        x.complex(50);
        B.due("told: size()", x.size(), 0);
        ShellPeel y = fullTape();
        B.due("full: size()", y.size(), 200);
        y.feed(0, 0, 0, 0, 0);
        B.due("full and fed: size()", y.size(), 200);
    }

    // Promise 58: "TROUBLE."
    // Terms III: "0 it wasn't; 1 there is none such (no COMPLEX, FACET, place, POINT, FACE); 2 a number; 3 no room; 4 a FAULT; 5 not so."
    static void promise58EachNumber() {
        ShellPeel x = Samples.full();
        B.due("told: trouble()", x.trouble(), 0);
        x.facet(12);
        B.due("no such facet: trouble()", x.trouble(), 1);
        B.due("twice the same: trouble()", x.trouble(), 1);
        x.within(128);
        B.due("a number: trouble()", x.trouble(), 2);
        x.add(96);
        B.due("no room: trouble()", x.trouble(), 3);
        x.complex(0);
        B.due("a fault: trouble()", x.trouble(), 4);
        x.add(3);
        B.due("not so: trouble()", x.trouble(), 5);
        x.good();
        B.due("not refused: trouble()", x.trouble(), 0);
    }

    // Promise 58: "TROUBLE."
    // Terms III: "TROUBLE of the latest call that may be refused (those of which a number is told here):"
    static void promise58EveryCallThatMayBeRefusedTellsIt() {
        needing().forEach((name, call) -> {
            ShellPeel x = new ShellPeel();
            x.complex(1);
            call.on(x);
            B.due("refused " + name + ": trouble()", x.trouble(), 1);
            ShellPeel y = Samples.sphere();
            y.add(16);
            call.on(y);
            B.due(name + ": trouble() of 2 stays", y.trouble() == 2 && !name.equals("add(1)") ? 1 : 0, 0);
        });
    }

    // Promise 58: "TROUBLE."
    // Terms III: "TROUBLE of the latest call that may be refused (those of which a number is told here):"
    static void promise58AnAnswerOfLessThanNoneIsNoRefusal() {
        B.tells("apart(0, 1), never", Samples::bowtie, x -> x.apart(0, 1), -2);
        B.tells("cell(9), no face", Samples::bowtie, x -> x.cell(9), -2);
        B.tells("cycle(0), no shelling", Samples::path, x -> x.cycle(0), -2);
        B.tells("shelled(0), none", Samples::bowtie, x -> x.shelled(0), -2);
        B.tells("stuck(), none", Samples::sphere, x -> x.stuck(), -2);
        B.tells("obstruction(), none", Samples::sphere, x -> x.obstruction(), -2);
        B.tells("first(), none", Samples::bowtie, x -> x.first(), -2);
    }

    // The constants: "`NONE = -1`: There is none; refused."
    static void theConstant() {
        B.due("NONE", ShellPeel.NONE, -1);
        B.refuses("refused: facet(3)", Samples::path, x -> x.facet(3), -1, 1);
    }

    // What it is: "An object is used for at most 512 calls after it has been made; what later calls answer is free."
    static void theLastOfTheCalls() {
        ShellPeel x = new ShellPeel();
        Checks.feed(x, PATH);
        B.due("the 4th call: complex(50)", x.complex(50), 3);
        for (int calls = 4; calls < 512; calls += 4) {
            B.due("behind " + calls + " calls: add(9)", x.add(9), 4);
            B.due("behind " + calls + " calls: shellings()", x.shellings(), 16);
            B.due("behind " + calls + " calls: drop(3)", x.drop(3), 3);
            B.due("behind " + calls + " calls: shellings()", x.shellings(), 4);
        }
        ShellPeel y = new ShellPeel();
        for (int calls = 0; calls < 510; calls += 3) {
            B.due("behind " + calls + " calls: feed()", y.feed(calls, 0, 0, 0, 0), 20);
            B.due("behind " + calls + " calls: complex(20)", y.complex(20), NONE);
            B.due("behind " + calls + " calls: where()", y.where(), 0);
        }
        B.due("the 511th call: fault()", y.fault(), 1);
        B.due("the 512th call: trouble()", y.trouble(), 4);
    }

    // Terms III: "Refusals are met in the order in which a call tells them."
    static void termsTheOrderOfRefusals() {
        B.refuses("new: within(-1)", Samples::none, x -> x.within(-1), NONE, 1);
        B.refuses("new: linkRound(-1, -1)", Samples::none, x -> x.linkRound(-1, -1), NONE, 1);
        B.refuses("linkRound(16, -1)", Samples::path, x -> x.linkRound(16, -1), NONE, 2);
        B.refuses("linkRound(5, -1)", Samples::path, x -> x.linkRound(5, -1), NONE, 5);
        B.refuses("new: add(-1)", Samples::none, x -> x.add(-1), NONE, 1);
        B.refuses("full: add(-1)", Samples::full, x -> x.add(-1), NONE, 2);
        B.refuses("full: add(3)", Samples::full, x -> x.add(3), NONE, 5);
        B.refuses("full: add(96)", Samples::full, x -> x.add(96), NONE, 3);
        B.refuses("lone: drop(1)", Samples::lone, x -> x.drop(1), NONE, 1);
        B.refuses("lone: drop(0)", Samples::lone, x -> x.drop(0), NONE, 5);
    }
}
