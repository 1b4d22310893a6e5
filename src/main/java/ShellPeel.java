import java.util.NoSuchElementException;

/**
 * Complexes of points, told by facets of one size, peeled in an order.
 * Sets of points and sets of facets are bits of an int all over the class.
 */
public final class ShellPeel {
    public static final int NONE = -1;

    private static final int NEVER = -2;
    private static final int MOST_FACETS = 12;
    private static final int MOST_POINTS = 7;
    private static final int MOST_SIZE = 5;
    private static final int ALL_SETS = 128;
    private static final int ALL_ROWS = 4096;
    private static final int SEEDS = 65537;

    private static final int NO_SUCH = 1;
    private static final int BAD_NUMBER = 2;
    private static final int NO_ROOM = 3;
    private static final int FAULTY = 4;
    private static final int NOT_SO = 5;

    private final Tape tape;
    private final Facets facets;
    private final Row row;
    private final Halves halves;
    private final Orders orders;
    private final Shedding shedding;
    private int trouble;

    public ShellPeel() {
        tape = new Tape();
        facets = new Facets();
        row = new Row();
        halves = new Halves();
        orders = new Orders();
        shedding = new Shedding();
        trouble = 0;
    }

    // ---- the complex

    public int feed(int a, int b, int c, int d, int e) {
        if (!tape.hasRoom()) {
            return NONE;
        }
        tape.takeFour(a);
        tape.takeFour(b);
        tape.takeFour(c);
        tape.takeFour(d);
        tape.takeFour(e);
        return tape.filled;
    }

    public int complex(int n) {
        if (refused(n < 0 || n > tape.filled, BAD_NUMBER) || refused(!tape.readAll(n), FAULTY)) {
            return NONE;
        }
        facets.take(tape);
        row.reset();
        renew();
        return facets.count;
    }

    public int fault() {
        return tape.fault;
    }

    public int where() {
        return trouble == FAULTY ? tape.place : NONE;
    }

    public int about(int what) {
        if (refused(isEmpty() || what < 0 || what > 6, NO_SUCH)) {
            return NONE;
        }
        switch (what) {
            case 0: return facets.points;
            case 1: return facets.size;
            case 2: return facets.count;
            case 3: return facets.countFaces();
            case 4: return facets.usedPoints();
            case 5: return facets.commonPoints();
            default: return facets.countMissing();
        }
    }

    public int facet(int i) {
        if (refused(!facets.isFacet(i), NO_SUCH)) {
            return NONE;
        }
        return facets.sets[i];
    }

    public int within(int face) {
        if (refusesSet(face)) {
            return NONE;
        }
        return facets.lying[face];
    }

    public int missing(int i) {
        int set = facets.nthMissing(i);
        return refused(set < 0, NO_SUCH) ? NONE : set;
    }

    public int faces(int k) {
        if (refusesUpTo(k, facets.size)) {
            return NONE;
        }
        return facets.countSized(k);
    }

    public int h(int k) {
        if (refusesUpTo(k, facets.size)) {
            return Integer.MIN_VALUE;
        }
        int sum = 0;
        for (int i = 0; i <= k; i++) {
            int part = facets.countSized(i) * Facets.choose(facets.size - i, k - i);
            sum += (k - i) % 2 == 0 ? part : -part;
        }
        return sum;
    }

    public int euler() {
        if (refusesEmpty()) {
            return Integer.MIN_VALUE;
        }
        int sum = 0;
        for (int k = 0; k <= facets.size; k++) {
            sum += k % 2 == 1 ? facets.countSized(k) : -facets.countSized(k);
        }
        return sum;
    }

    public int rank(int k) {
        if (refusesUpTo(k, facets.size)) {
            return NONE;
        }
        halves.takeFaces(facets);
        return halves.rankOf(k);
    }

    public int round(int k) {
        if (refusesUpTo(k, facets.size)) {
            return NONE;
        }
        halves.takeFaces(facets);
        return halves.roundOf(k);
    }

    public int dual(int i) {
        int set = facets.nthMissing(i);
        return refused(set < 0, NO_SUCH) ? NONE : facets.everyPoint() & ~set;
    }

    public int dualRound(int k) {
        if (refusesUpTo(k, facets.points)) {
            return NONE;
        }
        halves.takeDual(facets);
        return halves.roundOf(k);
    }

    public int near(int i) {
        if (refused(!facets.isFacet(i), NO_SUCH)) {
            return NONE;
        }
        return facets.neighbours(i);
    }

    public int apart(int i, int j) {
        if (refused(!facets.isFacet(i) || !facets.isFacet(j), NO_SUCH)) {
            return NONE;
        }
        return facets.steps(i, j);
    }

    // ---- the order

    public int ordered(int place) {
        return refusesPlace(place) ? NONE : row.at[place];
    }

    public int joins(int place) {
        if (refusesPlace(place)) {
            return NONE;
        }
        return row.fitsAt(facets, place) ? 1 : 0;
    }

    public int restricted(int place) {
        return refusesPlace(place) ? NONE : row.restriction(facets, place);
    }

    public int good() {
        return refusesEmpty() ? NONE : row.goodStart(facets);
    }

    public int sized(int k) {
        if (refusesUpTo(k, facets.size)) {
            return NONE;
        }
        return row.countRestrictions(facets, k);
    }

    public int spanning(int i) {
        int place = row.nthSpanning(facets, i);
        return refused(place < 0, NO_SUCH) ? NONE : place;
    }

    public int cycle(int i) {
        int place = row.nthSpanning(facets, i);
        if (refused(place < 0, NO_SUCH)) {
            return NONE;
        }
        if (row.goodStart(facets) < facets.count) {
            return NEVER;
        }
        return halves.cycleOf(facets, row.at[place], facets.everyFacet() & ~row.spanningFacets(facets));
    }

    public double mean() {
        if (refusesEmpty()) {
            return -1;
        }
        int sum = 0;
        for (int place = 0; place < facets.count; place++) {
            sum += Integer.bitCount(row.restriction(facets, place));
        }
        return facets.count == 0 ? -1 : (double) sum / facets.count;
    }

    public int cell(int face) {
        if (refusesSet(face)) {
            return NONE;
        }
        return row.firstWith(facets, face);
    }

    public int fresh(int place) {
        if (refusesPlace(place)) {
            return NONE;
        }
        int found = 0;
        for (int face = 0; face <= facets.everyPoint(); face++) {
            if (row.firstWith(facets, face) == place) {
                found++;
            }
        }
        return found;
    }

    public int between(int face) {
        if (refusesSet(face)) {
            return NONE;
        }
        return row.countBetween(facets, face);
    }

    public int unparted() {
        if (refusesEmpty()) {
            return NONE;
        }
        int found = 0;
        for (int face = 0; face <= facets.everyPoint(); face++) {
            if (facets.isFace(face) && row.countBetween(facets, face) != 1) {
                found++;
            }
        }
        return found;
    }

    public int rebuilt(int k) {
        if (refusesUpTo(k, facets.size)) {
            return NONE;
        }
        int sum = 0;
        for (int i = 0; i <= k; i++) {
            sum += row.countRestrictions(facets, i) * Facets.choose(facets.size - i, k - i);
        }
        return sum;
    }

    public int swaps() {
        if (refusesEmpty()) {
            return NONE;
        }
        int found = 0;
        for (int place = 0; place + 1 < facets.count; place++) {
            row.exchange(place);
            if (row.goodStart(facets) == facets.count) {
                found |= 1 << place;
            }
            row.exchange(place);
        }
        return found;
    }

    // ---- the algebra's side

    public int leaps(int place) {
        return refusesPlace(place) ? NONE : row.countLeaps(facets, place);
    }

    public int leap(int place, int i) {
        int set = row.isPlace(facets, place) ? row.nthLeap(facets, place, i) : NONE;
        return refused(set < 0, NO_SUCH) ? NONE : set;
    }

    public int linear() {
        if (refusesEmpty()) {
            return NONE;
        }
        for (int place = 0; place < facets.count; place++) {
            if (!row.hasSingleLeaps(facets, place)) {
                return 0;
            }
        }
        return 1;
    }

    // ---- all orders

    public int shellings() {
        if (refusesEmpty()) {
            return NONE;
        }
        return allOrders().onward[0];
    }

    public int shelled(int place) {
        if (refusesPlace(place)) {
            return NONE;
        }
        return allOrders().leastAt(facets, place);
    }

    public int peelable() {
        if (refusesEmpty()) {
            return NONE;
        }
        return allOrders().lastOnes(facets);
    }

    public int goesOn(int n) {
        if (refusesUpTo(n, facets.count)) {
            return NONE;
        }
        if (row.goodStart(facets) < n) {
            return 0;
        }
        return allOrders().onward[row.ahead(n)];
    }

    public int stuck() {
        if (refusesEmpty()) {
            return NONE;
        }
        return allOrders().deadEnd(facets);
    }

    public int peeled(int seed) {
        if (refusesUpTo(seed, SEEDS - 1)) {
            return NONE;
        }
        return facets.peelByDraws(seed);
    }

    // ---- links

    public int link(int face) {
        return refusesFace(face) ? NONE : Integer.bitCount(facets.lying[face]);
    }

    public int linkRound(int face, int k) {
        if (refusesFace(face)
                || refused(k < 0 || k > facets.size - Integer.bitCount(face), BAD_NUMBER)) {
            return NONE;
        }
        halves.takeLink(facets, face);
        return halves.roundOf(k);
    }

    public int linkShellings(int face) {
        return refusesFace(face) ? NONE : allOrders().ways[facets.lying[face]];
    }

    public int even() {
        if (refusesEmpty()) {
            return NONE;
        }
        for (int face = 0; face <= facets.everyPoint(); face++) {
            if (facets.isFace(face) && !halves.isFlatLink(facets, face)) {
                return 0;
            }
        }
        return 1;
    }

    public int obstruction() {
        if (refusesEmpty()) {
            return NONE;
        }
        return allOrders().largestBad(facets);
    }

    // ---- shedding

    public int fallsApart() {
        if (refusesEmpty()) {
            return NONE;
        }
        return allSheddings().falls(facets, facets.everyFacet(), 0) ? 1 : 0;
    }

    public int shed() {
        if (refusesEmpty()) {
            return NONE;
        }
        int found = 0;
        for (int p = 0; p < facets.points; p++) {
            if (facets.canLose(facets.everyFacet(), p)) {
                found |= 1 << p;
            }
        }
        return found;
    }

    public int first() {
        if (refusesEmpty()) {
            return NONE;
        }
        return allSheddings().leastPoint(facets, facets.everyFacet(), 0);
    }

    // ---- acts

    public int add(int points) {
        if (refusesEmpty()
                || refused(!facets.isSet(points) || Integer.bitCount(points) != facets.size, BAD_NUMBER)
                || refused(facets.numberOf(points) >= 0, NOT_SO)
                || refused(facets.count >= MOST_FACETS, NO_ROOM)) {
            return NONE;
        }
        row.append(facets.count);
        facets.append(points);
        renew();
        return facets.count;
    }

    public int drop(int i) {
        if (refused(!facets.isFacet(i), NO_SUCH) || refused(facets.count == 1, NOT_SO)) {
            return NONE;
        }
        takeAway(i);
        return facets.count;
    }

    public int peel() {
        if (refusesEmpty() || refused(facets.count <= 1, NOT_SO)) {
            return NONE;
        }
        int i = row.at[facets.count - 1];
        int set = facets.sets[i];
        takeAway(i);
        return set;
    }

    public int move(int from, int to) {
        if (refused(!row.isPlace(facets, from) || !row.isPlace(facets, to), NO_SUCH)) {
            return NONE;
        }
        row.carry(from, to);
        return row.goodStart(facets);
    }

    public int lay() {
        if (refusesEmpty() || refused(allOrders().onward[0] == 0, NOT_SO)) {
            return NONE;
        }
        for (int place = 0; place < facets.count; place++) {
            row.at[place] = orders.leastAt(facets, place);
        }
        return orders.onward[0];
    }

    public int turn(int p, int q) {
        if (refused(!facets.isPoint(p) || !facets.isPoint(q) || p == q, NO_SUCH)) {
            return NONE;
        }
        int changed = facets.rename(p, q);
        renew();
        return changed;
    }

    // ---- what is told

    public int breaks(int i) throws NoSuchElementException {
        int place = row.nthBreak(facets, i);
        if (place < 0) {
            throw new NoSuchElementException("no such break");
        }
        return place;
    }

    public int size() {
        return tape.filled;
    }

    public int trouble() {
        return trouble;
    }

    // ---- refusals, each of which tells TROUBLE of the call that asks

    private boolean refused(boolean bad, int number) {
        trouble = bad ? number : 0;
        return bad;
    }

    private boolean isEmpty() {
        return facets.count == 0;
    }

    private boolean refusesEmpty() {
        return refused(isEmpty(), NO_SUCH);
    }

    private boolean refusesUpTo(int number, int most) {
        return refusesEmpty() || refused(number < 0 || number > most, BAD_NUMBER);
    }

    private boolean refusesSet(int face) {
        return refusesEmpty() || refused(!facets.isSet(face), BAD_NUMBER);
    }

    private boolean refusesFace(int face) {
        return refusesSet(face) || refused(!facets.isFace(face), NOT_SO);
    }

    private boolean refusesPlace(int place) {
        return refused(!row.isPlace(facets, place), NO_SUCH);
    }

    // ---- what goes with a change of the FACETS

    private void renew() {
        facets.recount();
        orders.known = false;
        shedding.known = false;
    }

    private void takeAway(int i) {
        row.remove(facets.count, i);
        facets.remove(i);
        renew();
    }

    private Orders allOrders() {
        orders.fill(facets);
        return orders;
    }

    private Shedding allSheddings() {
        shedding.begin();
        return shedding;
    }

    /** THE TAPE, and the reader of the text on it. */
    private static final class Tape {
        static final int ROOM = 200;
        static final int FED = 20;
        static final int BLANK = 32;

        static final int END = 0;
        static final int WORD = 1;
        static final int WHOLE = 2;
        static final int MARK = 3;
        static final int WRONG = 4;

        static final int FORM = 1;
        static final int BOUNDS = 2;
        static final int ODD = 3;
        static final int AGAIN = 4;
        static final int MANY = 5;
        static final int LACKS = 6;

        final int[] bytes = new int[ROOM];
        int filled;
        int fault;
        int place;

        final int[] sets = new int[MOST_FACETS];
        int points;
        int size;
        int count;

        private int end;
        private int kind;
        private int start;
        private int next;
        private int whole;

        boolean hasRoom() {
            return filled + FED <= ROOM;
        }

        void takeFour(int word) {
            for (int shift = 24; shift >= 0; shift -= 8) {
                if (filled < ROOM) {
                    bytes[filled] = word >>> shift & 255;
                    filled++;
                }
            }
        }

        /** Reads the first n bytes and empties THE TAPE; false, with fault and place, if there is a FAULT. */
        boolean readAll(int n) {
            end = Math.max(0, Math.min(n, filled));
            next = 0;
            filled = 0;
            fault = 0;
            place = NONE;
            points = 0;
            size = 0;
            count = 0;
            for (int line = 0; line <= ROOM; line++) {
                if (!readLine()) {
                    return false;
                }
                step();
                if (kind == END) {
                    return count > 0 || failed(LACKS);
                }
                if (kind != MARK) {
                    return failed(FORM);
                }
            }
            return failed(FORM);
        }

        private boolean failed(int number) {
            fault = number;
            place = start;
            return false;
        }

        private boolean readLine() {
            step();
            if (wordIs("complex")) {
                return readHead();
            }
            if (wordIs("facet")) {
                return readFacet();
            }
            return failed(FORM);
        }

        private boolean readHead() {
            if (points > 0) {
                return failed(AGAIN);
            }
            if (!meets("points") || !meetsWhole(MOST_POINTS)) {
                return false;
            }
            points = whole;
            if (!meets("size") || !meetsWhole(Math.min(MOST_SIZE, points))) {
                return false;
            }
            size = whole;
            return true;
        }

        private boolean readFacet() {
            if (points == 0) {
                return failed(LACKS);
            }
            if (count >= MOST_FACETS) {
                return failed(MANY);
            }
            step();
            if (kind != WORD) {
                return failed(FORM);
            }
            int set = wordSet();
            if (Integer.bitCount(set) != size) {
                return failed(ODD);
            }
            for (int i = 0; i < count; i++) {
                if (sets[i] == set) {
                    return failed(AGAIN);
                }
            }
            sets[count] = set;
            count++;
            return true;
        }

        private boolean meets(String word) {
            step();
            return wordIs(word) || failed(FORM);
        }

        private boolean meetsWhole(int most) {
            step();
            if (kind != WHOLE) {
                return failed(FORM);
            }
            whole = 0;
            for (int i = start; i < next && i < ROOM; i++) {
                whole = whole * 10 + bytes[i] - '0';
            }
            return whole >= 1 && whole <= most || failed(BOUNDS);
        }

        /** The POINTS of the WORD; the empty set, which is no FACET, if a letter is no POINT or comes twice. */
        private int wordSet() {
            int set = 0;
            for (int i = start; i < next && i < ROOM; i++) {
                int letter = bytes[i] - 'a';
                if (letter >= points || (set >> letter & 1) == 1) {
                    return 0;
                }
                set |= 1 << letter;
            }
            return set;
        }

        private boolean wordIs(String word) {
            if (kind != WORD || next - start != word.length()) {
                return false;
            }
            for (int i = 0; i < word.length() && start + i < ROOM; i++) {
                if (bytes[start + i] != word.charAt(i)) {
                    return false;
                }
            }
            return true;
        }

        /** Goes to the next TOKEN; letters or digits that stand together in too large a number begin none. */
        private void step() {
            start = next;
            while (start < end && bytes[start] == BLANK) {
                start++;
            }
            next = start;
            if (start >= end) {
                kind = END;
            } else if (isLetter(bytes[start])) {
                kind = passLetters() <= 7 ? WORD : WRONG;
            } else if (isDigit(bytes[start])) {
                kind = passDigits() <= 2 ? WHOLE : WRONG;
            } else {
                kind = bytes[start] == ';' ? MARK : WRONG;
                next = start + 1;
            }
        }

        private int passLetters() {
            while (next < end && isLetter(bytes[next])) {
                next++;
            }
            return next - start;
        }

        private int passDigits() {
            while (next < end && isDigit(bytes[next])) {
                next++;
            }
            return next - start;
        }

        private static boolean isLetter(int sign) {
            return sign >= 'a' && sign <= 'z';
        }

        private static boolean isDigit(int sign) {
            return sign >= '0' && sign <= '9';
        }
    }

    /** The COMPLEX: its FACETS by numbers, and what follows from them whatever THE ORDER is. */
    private static final class Facets {
        // Pascal's triangle: six to a line, up to SIZE 5.
        private static final int[] CHOICES = {
            1, 0, 0, 0, 0, 0,
            1, 1, 0, 0, 0, 0,
            1, 2, 1, 0, 0, 0,
            1, 3, 3, 1, 0, 0,
            1, 4, 6, 4, 1, 0,
            1, 5, 10, 10, 5, 1,
        };

        int points;
        int size;
        int count;
        final int[] sets = new int[MOST_FACETS];
        // FACETS that have a POINT.
        final int[] having = new int[MOST_POINTS];
        // FACETS that a set lies in.
        final int[] lying = new int[ALL_SETS];
        // FACETS with which one (its number times MOST_POINTS) has all but that POINT in common.
        final int[] across = new int[MOST_FACETS * MOST_POINTS];

        static int choose(int of, int many) {
            if (of < 0 || of > MOST_SIZE || many < 0 || many > of) {
                return 0;
            }
            return CHOICES[of * (MOST_SIZE + 1) + many];
        }

        void take(Tape tape) {
            points = tape.points;
            size = tape.size;
            count = tape.count;
            for (int i = 0; i < count; i++) {
                sets[i] = tape.sets[i];
            }
        }

        void append(int set) {
            if (count < MOST_FACETS) {
                sets[count] = set;
                count++;
            }
        }

        void remove(int i) {
            for (int j = i; j + 1 < count; j++) {
                sets[j] = sets[j + 1];
            }
            count--;
        }

        int rename(int p, int q) {
            int both = 1 << p | 1 << q;
            int changed = 0;
            for (int i = 0; i < count; i++) {
                if (Integer.bitCount(sets[i] & both) == 1) {
                    sets[i] ^= both;
                    changed++;
                }
            }
            return changed;
        }

        void recount() {
            recountHaving();
            recountLying();
            recountAcross();
        }

        private void recountHaving() {
            for (int p = 0; p < MOST_POINTS; p++) {
                having[p] = 0;
                for (int i = 0; i < count; i++) {
                    having[p] |= (sets[i] >> p & 1) << i;
                }
            }
        }

        // A set lies where the set without its highest POINT lies and that POINT is had.
        private void recountLying() {
            lying[0] = everyFacet();
            for (int p = 0; p < MOST_POINTS; p++) {
                int bit = 1 << p;
                for (int below = 0; below < bit; below++) {
                    lying[bit | below] = lying[below] & having[p];
                }
            }
        }

        private void recountAcross() {
            for (int i = 0; i < count; i++) {
                for (int p = 0; p < MOST_POINTS; p++) {
                    int bit = 1 << p;
                    boolean has = (sets[i] & bit) != 0;
                    across[i * MOST_POINTS + p] = has ? lying[sets[i] & ~bit] & ~having[p] : 0;
                }
            }
        }

        int everyPoint() {
            return (1 << points) - 1;
        }

        int everyFacet() {
            return (1 << count) - 1;
        }

        boolean isPoint(int p) {
            return count > 0 && p >= 0 && p < points;
        }

        boolean isFacet(int i) {
            return i >= 0 && i < count;
        }

        boolean isSet(int set) {
            return set >= 0 && set <= everyPoint();
        }

        boolean isFace(int set) {
            return isSet(set) && lying[set] != 0;
        }

        int numberOf(int set) {
            for (int i = 0; i < count; i++) {
                if (sets[i] == set) {
                    return i;
                }
            }
            return NONE;
        }

        int countFaces() {
            int found = 0;
            for (int k = 0; k <= size; k++) {
                found += countSized(k);
            }
            return found;
        }

        int countSized(int k) {
            int found = 0;
            for (int set = 0; set <= everyPoint(); set++) {
                if (lying[set] != 0 && Integer.bitCount(set) == k) {
                    found++;
                }
            }
            return found;
        }

        int usedPoints() {
            int found = 0;
            for (int i = 0; i < count; i++) {
                found |= sets[i];
            }
            return found;
        }

        int commonPoints() {
            int found = everyPoint();
            for (int i = 0; i < count; i++) {
                found &= sets[i];
            }
            return found;
        }

        boolean isMissing(int set) {
            if (lying[set] != 0) {
                return false;
            }
            for (int p = 0; p < points; p++) {
                int bit = 1 << p;
                if ((set & bit) != 0 && lying[set & ~bit] == 0) {
                    return false;
                }
            }
            return true;
        }

        int countMissing() {
            int found = 0;
            for (int set = 0; set <= everyPoint(); set++) {
                if (isMissing(set)) {
                    found++;
                }
            }
            return found;
        }

        int nthMissing(int i) {
            if (count == 0 || i < 0) {
                return NONE;
            }
            int left = i;
            for (int set = 0; set <= everyPoint(); set++) {
                if (isMissing(set)) {
                    if (left == 0) {
                        return set;
                    }
                    left--;
                }
            }
            return NONE;
        }

        int neighbours(int i) {
            int found = 0;
            for (int p = 0; p < points; p++) {
                found |= across[i * MOST_POINTS + p];
            }
            return found;
        }

        int steps(int from, int to) {
            int reached = 1 << from;
            for (int step = 0; step < MOST_FACETS; step++) {
                if ((reached >> to & 1) == 1) {
                    return step;
                }
                int wider = reached;
                for (int i = 0; i < count; i++) {
                    if ((reached >> i & 1) == 1) {
                        wider |= neighbours(i);
                    }
                }
                reached = wider;
            }
            return NEVER;
        }

        /** The POINTS without each of which alone a FACET lies in one of the others. */
        int restriction(int i, int others) {
            int found = 0;
            for (int p = 0; p < points; p++) {
                if ((across[i * MOST_POINTS + p] & others) != 0) {
                    found |= 1 << p;
                }
            }
            return found;
        }

        /** A FACET JOINS others if each of them lacks a POINT of its restriction by them. */
        boolean fits(int i, int others) {
            int unmet = others;
            for (int p = 0; p < points && unmet != 0; p++) {
                if ((across[i * MOST_POINTS + p] & others) != 0) {
                    unmet &= having[p];
                }
            }
            return unmet == 0;
        }

        /** Those of some FACETS that JOIN the rest of them. */
        int loose(int some) {
            int found = 0;
            for (int i = 0; i < count; i++) {
                int bit = 1 << i;
                if ((some & bit) != 0 && fits(i, some & ~bit)) {
                    found |= bit;
                }
            }
            return found;
        }

        int peelByDraws(int seed) {
            int left = everyFacet();
            int drawn = seed;
            for (int turns = 0; turns < MOST_FACETS && Integer.bitCount(left) > 1; turns++) {
                int ready = loose(left);
                int many = Integer.bitCount(ready);
                if (many == 0) {
                    return Integer.bitCount(left);
                }
                drawn = (75 * drawn + 74) % SEEDS;
                left &= ~nthBit(ready, drawn % many);
            }
            return Integer.bitCount(left);
        }

        private static int nthBit(int some, int n) {
            int left = some;
            for (int i = 0; i < n; i++) {
                left &= left - 1;
            }
            return left & -left;
        }

        /** Whether a POINT can be SHED from the COMPLEX of some FACETS (also without POINTS that all of them have). */
        boolean canLose(int some, int p) {
            int with = some & having[p];
            int without = some & ~having[p];
            if (with == 0 || without == 0) {
                return false;
            }
            for (int i = 0; i < count; i++) {
                if ((with >> i & 1) == 1 && (across[i * MOST_POINTS + p] & without) == 0) {
                    return false;
                }
            }
            return true;
        }
    }

    /** THE ORDER. */
    private static final class Row {
        final int[] at = new int[MOST_FACETS];

        void reset() {
            for (int place = 0; place < MOST_FACETS; place++) {
                at[place] = place;
            }
        }

        void append(int i) {
            if (i >= 0 && i < MOST_FACETS) {
                at[i] = i;
            }
        }

        /** FACET i goes from a row of count ones; those behind it by number are one less. */
        void remove(int count, int i) {
            int kept = 0;
            for (int place = 0; place < count; place++) {
                int facet = at[place];
                if (facet != i) {
                    at[kept] = facet > i ? facet - 1 : facet;
                    kept++;
                }
            }
        }

        void exchange(int place) {
            if (place >= 0 && place + 1 < MOST_FACETS) {
                int facet = at[place];
                at[place] = at[place + 1];
                at[place + 1] = facet;
            }
        }

        void carry(int from, int to) {
            for (int place = from; place < to; place++) {
                exchange(place);
            }
            for (int place = from; place > to; place--) {
                exchange(place - 1);
            }
        }

        boolean isPlace(Facets facets, int place) {
            return place >= 0 && place < facets.count;
        }

        /** The FACETS at the first places, so many. */
        int ahead(int places) {
            int found = 0;
            for (int place = 0; place < places && place < MOST_FACETS; place++) {
                found |= 1 << at[place];
            }
            return found;
        }

        boolean fitsAt(Facets facets, int place) {
            return facets.fits(at[place], ahead(place));
        }

        int restriction(Facets facets, int place) {
            return facets.restriction(at[place], ahead(place));
        }

        int goodStart(Facets facets) {
            for (int place = 0; place < facets.count; place++) {
                if (!fitsAt(facets, place)) {
                    return place;
                }
            }
            return facets.count;
        }

        int nthBreak(Facets facets, int i) {
            int left = i;
            for (int place = 0; place < facets.count && left >= 0; place++) {
                if (!fitsAt(facets, place)) {
                    if (left == 0) {
                        return place;
                    }
                    left--;
                }
            }
            return NONE;
        }

        int countRestrictions(Facets facets, int k) {
            int found = 0;
            for (int place = 0; place < facets.count; place++) {
                if (Integer.bitCount(restriction(facets, place)) == k) {
                    found++;
                }
            }
            return found;
        }

        private boolean isSpanning(Facets facets, int place) {
            return Integer.bitCount(restriction(facets, place)) == facets.size;
        }

        int nthSpanning(Facets facets, int i) {
            int left = i;
            for (int place = 0; place < facets.count && left >= 0; place++) {
                if (isSpanning(facets, place)) {
                    if (left == 0) {
                        return place;
                    }
                    left--;
                }
            }
            return NONE;
        }

        int spanningFacets(Facets facets) {
            int found = 0;
            for (int place = 0; place < facets.count; place++) {
                if (isSpanning(facets, place)) {
                    found |= 1 << at[place];
                }
            }
            return found;
        }

        int firstWith(Facets facets, int face) {
            for (int place = 0; place < facets.count; place++) {
                if ((facets.lying[face] >> at[place] & 1) == 1) {
                    return place;
                }
            }
            return NEVER;
        }

        int countBetween(Facets facets, int face) {
            int found = 0;
            for (int place = 0; place < facets.count; place++) {
                if ((facets.lying[face] >> at[place] & 1) == 1
                        && (restriction(facets, place) & ~face) == 0) {
                    found++;
                }
            }
            return found;
        }

        /** What the FACET at a place has and the one at a place ahead has not. */
        private int leapOver(Facets facets, int place, int earlier) {
            return facets.sets[at[place]] & ~facets.sets[at[earlier]];
        }

        private boolean isLeast(Facets facets, int place, int set) {
            for (int earlier = 0; earlier < place; earlier++) {
                int other = leapOver(facets, place, earlier);
                if (other != set && (other & ~set) == 0) {
                    return false;
                }
            }
            return true;
        }

        private boolean isLeap(Facets facets, int place, int set) {
            for (int earlier = 0; earlier < place; earlier++) {
                if (leapOver(facets, place, earlier) == set) {
                    return true;
                }
            }
            return false;
        }

        int nthLeap(Facets facets, int place, int i) {
            int left = i;
            for (int set = 1; set <= facets.everyPoint() && left >= 0; set++) {
                if (isLeap(facets, place, set) && isLeast(facets, place, set)) {
                    if (left == 0) {
                        return set;
                    }
                    left--;
                }
            }
            return NONE;
        }

        int countLeaps(Facets facets, int place) {
            int found = 0;
            for (int set = 1; set <= facets.everyPoint(); set++) {
                if (isLeap(facets, place, set) && isLeast(facets, place, set)) {
                    found++;
                }
            }
            return found;
        }

        boolean hasSingleLeaps(Facets facets, int place) {
            for (int earlier = 0; earlier < place; earlier++) {
                int set = leapOver(facets, place, earlier);
                if (Integer.bitCount(set) != 1 && isLeast(facets, place, set)) {
                    return false;
                }
            }
            return true;
        }
    }

    /** Ranks by halves of a family of sets that has with each set all that lie in it. */
    private static final class Halves {
        // No more sets of POINTS than these have one size.
        static final int COLUMNS = 35;

        // Number of a set among those of its size.
        private final int[] column = new int[ALL_SETS];
        private final boolean[] in = new boolean[ALL_SETS];
        private int limit;

        // Rows by their highest column, and what has been summed up to each.
        private final long[] heads = new long[COLUMNS];
        private final int[] sums = new int[COLUMNS];
        private int sum;

        Halves() {
            int[] before = new int[MOST_POINTS + 1];
            for (int set = 0; set < ALL_SETS; set++) {
                int many = Integer.bitCount(set);
                column[set] = before[many];
                before[many]++;
            }
        }

        void takeFaces(Facets facets) {
            takeLink(facets, 0);
        }

        void takeLink(Facets facets, int face) {
            limit = facets.everyPoint();
            for (int set = 0; set <= limit; set++) {
                in[set] = (set & face) == 0 && facets.isFace(set | face);
            }
        }

        // A set lies in all POINTS but a MISSING set's where the other POINTS are no FACE.
        void takeDual(Facets facets) {
            limit = facets.everyPoint();
            for (int set = 0; set <= limit; set++) {
                in[set] = !facets.isFace(limit & ~set);
            }
        }

        private void clear() {
            for (int i = 0; i < COLUMNS; i++) {
                heads[i] = 0;
                sums[i] = 0;
            }
        }

        private long rowOf(int set) {
            long found = 0;
            for (int p = 0; p < MOST_POINTS; p++) {
                int bit = 1 << p;
                if ((set & bit) != 0) {
                    found |= 1L << column[set & ~bit];
                }
            }
            return found;
        }

        /** True if a row is new to those before it; else sum tells those with which it makes nothing. */
        private boolean settle(long line, int mark) {
            long left = line;
            sum = mark;
            for (int i = COLUMNS - 1; i >= 0 && left != 0; i--) {
                if ((left >>> i & 1) == 1) {
                    if (heads[i] == 0) {
                        heads[i] = left;
                        sums[i] = sum;
                        return true;
                    }
                    left ^= heads[i];
                    sum ^= sums[i];
                }
            }
            return false;
        }

        int rankOf(int k) {
            if (k < 1) {
                return 0;
            }
            clear();
            int found = 0;
            for (int set = 0; set <= limit; set++) {
                if (in[set] && Integer.bitCount(set) == k && settle(rowOf(set), 0)) {
                    found++;
                }
            }
            return found;
        }

        private int countOf(int k) {
            int found = 0;
            for (int set = 0; set <= limit; set++) {
                if (in[set] && Integer.bitCount(set) == k) {
                    found++;
                }
            }
            return found;
        }

        int roundOf(int k) {
            return countOf(k) - rankOf(k) - rankOf(k + 1);
        }

        /** Whether LINK of a FACE has ROUND 0 for all less than its SIZE. */
        boolean isFlatLink(Facets facets, int face) {
            takeLink(facets, face);
            int below = 0;
            for (int k = 0; k < facets.size - Integer.bitCount(face); k++) {
                int above = rankOf(k + 1);
                if (countOf(k) != below + above) {
                    return false;
                }
                below = above;
            }
            return true;
        }

        /** CYCLE of a FACET with such as aren't SPANNING; in a SHELLING there is just one. */
        int cycleOf(Facets facets, int spanning, int plain) {
            clear();
            for (int i = 0; i < facets.count; i++) {
                if ((plain >> i & 1) == 1) {
                    settle(rowOf(facets.sets[i]), 1 << i);
                }
            }
            settle(rowOf(facets.sets[spanning]), 1 << spanning);
            return sum;
        }
    }

    /** All ORDERS at once, by sets of FACETS; reckoned anew only when the FACETS have changed. */
    private static final class Orders {
        boolean known;
        // In how many ORDERS of a set each JOINS those ahead.
        final int[] ways = new int[ALL_ROWS];
        // FACETS that JOIN a set, where it has such an ORDER.
        private final int[] ready = new int[ALL_ROWS];
        // In how many ways such a set goes on to a SHELLING of all.
        final int[] onward = new int[ALL_ROWS];

        void fill(Facets facets) {
            if (!known) {
                fillWays(facets);
                fillOnward(facets);
                known = true;
            }
        }

        private void fillWays(Facets facets) {
            int all = facets.everyFacet();
            for (int some = 0; some <= all; some++) {
                ways[some] = 0;
                ready[some] = 0;
            }
            ways[0] = 1;
            for (int some = 0; some < all; some++) {
                if (ways[some] != 0) {
                    pushOn(facets, some);
                }
            }
        }

        private void pushOn(Facets facets, int some) {
            int found = 0;
            for (int i = 0; i < facets.count; i++) {
                int bit = 1 << i;
                if ((some & bit) == 0 && facets.fits(i, some)) {
                    found |= bit;
                    ways[some | bit] += ways[some];
                }
            }
            ready[some] = found;
        }

        private void fillOnward(Facets facets) {
            int all = facets.everyFacet();
            onward[all] = ways[all] == 0 ? 0 : 1;
            for (int some = all - 1; some >= 0; some--) {
                onward[some] = ready[some] == 0 ? 0 : sumOnward(facets, some);
            }
        }

        private int sumOnward(Facets facets, int some) {
            int found = 0;
            for (int i = 0; i < facets.count; i++) {
                int bit = 1 << i;
                if ((ready[some] & bit) != 0) {
                    found += onward[some | bit];
                }
            }
            return found;
        }

        int leastAt(Facets facets, int place) {
            int some = 0;
            int last = NEVER;
            for (int step = 0; step <= place && step < MOST_FACETS; step++) {
                last = leastOnward(facets, some);
                if (last < 0) {
                    return NEVER;
                }
                some |= 1 << last;
            }
            return last;
        }

        private int leastOnward(Facets facets, int some) {
            for (int i = 0; i < facets.count; i++) {
                int bit = 1 << i;
                if ((ready[some] & bit) != 0 && onward[some | bit] != 0) {
                    return i;
                }
            }
            return NEVER;
        }

        int lastOnes(Facets facets) {
            int found = 0;
            for (int i = 0; i < facets.count; i++) {
                int bit = 1 << i;
                found |= ready[facets.everyFacet() & ~bit] & bit;
            }
            return found;
        }

        int deadEnd(Facets facets) {
            int best = NEVER;
            for (int some = 0; some <= facets.everyFacet(); some++) {
                if (ways[some] != 0 && onward[some] == 0
                        && (best < 0 || Integer.bitCount(some) < Integer.bitCount(best))) {
                    best = some;
                }
            }
            return best;
        }

        // FACETS with a FACE in common JOIN with and without it alike, so LINK's ORDERS are theirs.
        int largestBad(Facets facets) {
            int best = NEVER;
            for (int face = 0; face <= facets.everyPoint(); face++) {
                if (facets.isFace(face) && ways[facets.lying[face]] == 0
                        && (best < 0 || Integer.bitCount(face) > Integer.bitCount(best))) {
                    best = face;
                }
            }
            return best;
        }
    }

    /**
     * What FALLS APART, by sets of FACETS: those left by SHEDDING have the POINTS of each LINK taken in common,
     * and such POINTS change nothing in what follows.
     */
    private static final class Shedding {
        boolean known;
        // Bits by sets of FACETS: whether it has been looked at, and whether it FALLS APART.
        private final int[] seen = new int[ALL_ROWS / 32];
        private final int[] falling = new int[ALL_ROWS / 32];

        void begin() {
            if (!known) {
                for (int i = 0; i < seen.length; i++) {
                    seen[i] = 0;
                    falling[i] = 0;
                }
                known = true;
            }
        }

        // Each level goes by a POINT that all or none of those left have from there on.
        private boolean falls(Facets facets, int some, int depth) {
            if (Integer.bitCount(some) == 1) {
                return true;
            }
            int slot = some >> 5;
            int bit = 1 << (some & 31);
            if ((seen[slot] & bit) == 0) {
                seen[slot] |= bit;
                if (leastPoint(facets, some, depth) >= 0) {
                    falling[slot] |= bit;
                }
            }
            return (falling[slot] & bit) != 0;
        }

        private int leastPoint(Facets facets, int some, int depth) {
            if (depth > MOST_POINTS) {
                return NEVER;
            }
            for (int p = 0; p < facets.points; p++) {
                if (facets.canLose(some, p)
                        && falls(facets, some & facets.having[p], depth + 1)
                        && falls(facets, some & ~facets.having[p], depth + 1)) {
                    return p;
                }
            }
            return NEVER;
        }
    }
}
