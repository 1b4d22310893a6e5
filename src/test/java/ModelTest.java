import java.util.ArrayList;
import java.util.List;
import java.util.Random;

/** Complexes drawn at random, with acts between, against the model that says the document's words slowly. */
public final class ModelTest {
    private static final Checks CHECKS = new Checks();

    public static void main(String[] args) {
        Random random = new Random(20261117);
        // One object for many complexes: nothing of an earlier one may stay.
        ShellPeel y = new ShellPeel();
        for (int round = 0; round < 260; round++) {
            int points = 1 + random.nextInt(7);
            int size = 1 + random.nextInt(Math.min(5, points));
            int most = round % 4 == 0 ? 12 : 7;
            Model model = drawn(random, points, size, 1 + random.nextInt(most), round % 3 != 0);
            ShellPeel x = Checks.made(points, size, words(model.facets));
            compare(x, model, "round " + round + " " + words(model.facets), random);
            for (int act = 0; act < 6; act++) {
                String what = act(x, model, random);
                compareLittle(x, model, "round " + round + " act " + act + " " + what);
            }
            for (int told = 0; told < 2; told++) {
                CHECKS.due("told again", Checks.tell(y, Checks.text(points, size, words(model.facets))), model.facets.size());
            }
            for (int place = 0; place < model.order.size(); place++) {
                int from = 0;
                while (y.ordered(from) != model.order.get(place)) {
                    from++;
                }
                y.move(from, place);
            }
            compare(y, model, "round " + round + " behind acts " + words(model.facets) + " " + model.order, random);
            compare(x, model, "round " + round + " acted " + words(model.facets) + " " + model.order, random);
        }
        // Shelled with beginnings that go no further; shelled, but not falling apart; not shelled, with all links shelled.
        whole("abe bde bdf def ace abf adf cef acd", random);
        whole("acd ade bde bef bdf cdf bcf ace acf abe", random);
        whole("abe abf acd acf ade bcd bce bdf cef def", random);
        CHECKS.end("ModelTest");
    }

    private static void whole(String words, Random random) {
        List<Integer> facets = new ArrayList<>();
        for (String word : words.split(" ")) {
            int set = 0;
            for (char letter : word.toCharArray()) {
                set |= 1 << letter - 'a';
            }
            facets.add(set);
        }
        Model model = new Model(6, 3, facets);
        ShellPeel x = Checks.made(6, 3, words);
        compare(x, model, words, random);
        compareOrders(x, model, words);
    }

    private static String words(List<Integer> facets) {
        StringBuilder text = new StringBuilder();
        for (int facet : facets) {
            text.append(Checks.word(facet)).append(' ');
        }
        return text.toString();
    }

    /** Facets drawn freely, or so that each is near to one before, as such complexes are shelled more often. */
    private static Model drawn(Random random, int points, int size, int wanted, boolean close) {
        List<Integer> facets = new ArrayList<>();
        for (int tries = 0; tries < 400 && facets.size() < wanted; tries++) {
            int set = random.nextInt(1 << points);
            if (Model.many(set) != size || facets.contains(set)) {
                continue;
            }
            boolean good = facets.isEmpty() || !close || tries > 300;
            for (int other : facets) {
                good |= Model.many(set & other) == size - 1;
            }
            if (good && (tries % 2 == 0 || Model.joins(set, facets) || !close)) {
                facets.add(set);
            }
        }
        if (facets.isEmpty()) {
            facets.add((1 << size) - 1);
        }
        return new Model(points, size, facets);
    }

    private static String act(ShellPeel x, Model m, Random random) {
        int n = m.facets.size();
        switch (random.nextInt(6)) {
            case 0: {
                int set = random.nextInt(1 << m.points);
                boolean form = Model.many(set) == m.size;
                int trouble = !form ? 2 : m.facets.contains(set) ? 5 : n == 12 ? 3 : 0;
                if (trouble == 0) {
                    m.facets.add(set);
                    m.order.add(n);
                }
                CHECKS.due("add(" + set + ")", x, x.add(set), trouble == 0 ? n + 1 : -1, trouble);
                return "add " + set;
            }
            case 1: {
                int i = random.nextInt(n);
                CHECKS.due("drop(" + i + ")", x, x.drop(i), n == 1 ? -1 : n - 1, n == 1 ? 5 : 0);
                if (n > 1) {
                    take(m, i);
                }
                return "drop " + i;
            }
            case 2: {
                int i = m.order.get(n - 1);
                CHECKS.due("peel()", x, x.peel(), n == 1 ? -1 : m.facets.get(i), n == 1 ? 5 : 0);
                if (n > 1) {
                    take(m, i);
                }
                return "peel";
            }
            case 3: {
                int from = random.nextInt(n);
                int to = random.nextInt(n);
                m.order.add(to, m.order.remove(from));
                CHECKS.due("move(" + from + ", " + to + ")", x, x.move(from, to), Model.goodOf(m.row()), 0);
                return "move " + from + " " + to;
            }
            case 4: {
                if (n > 8) {
                    return "nothing";
                }
                List<int[]> all = Model.shellingsOf(m.facets);
                CHECKS.due("lay()", x, x.lay(), all.isEmpty() ? -1 : all.size(), all.isEmpty() ? 5 : 0);
                for (int place = 0; !all.isEmpty() && place < n; place++) {
                    m.order.set(place, all.get(0)[place]);
                }
                return "lay";
            }
            default: {
                int p = random.nextInt(m.points);
                int q = random.nextInt(m.points);
                int changed = 0;
                for (int i = 0; p != q && i < n; i++) {
                    int set = m.facets.get(i);
                    int turned = set & ~(1 << p) & ~(1 << q) | (set >> p & 1) << q | (set >> q & 1) << p;
                    changed += turned == set ? 0 : 1;
                    m.facets.set(i, turned);
                }
                CHECKS.due("turn(" + p + ", " + q + ")", x, x.turn(p, q), p == q ? -1 : changed, p == q ? 1 : 0);
                return "turn " + p + " " + q;
            }
        }
    }

    private static void take(Model m, int i) {
        m.facets.remove(i);
        m.order.remove((Integer) i);
        m.order.replaceAll(j -> j > i ? j - 1 : j);
    }

    private static void compareLittle(ShellPeel x, Model m, String at) {
        CHECKS.due(at + " about(2)", x.about(2), m.facets.size());
        for (int i = 0; i < m.facets.size(); i++) {
            CHECKS.due(at + " facet(" + i + ")", x.facet(i), m.facets.get(i));
            CHECKS.due(at + " ordered(" + i + ")", x.ordered(i), m.order.get(i));
        }
        CHECKS.due(at + " good()", x.good(), Model.goodOf(m.row()));
        CHECKS.due(at + " fallsApart()", x.fallsApart(), Model.fallsApart(m.facets, m.points) ? 1 : 0);
        if (m.facets.size() <= 6) {
            CHECKS.due(at + " shellings()", x.shellings(), Model.shellingsOf(m.facets).size());
        }
    }

    private static void compare(ShellPeel x, Model m, String at, Random random) {
        compareLittle(x, m, at);
        compareFaces(x, m, at);
        compareSets(x, m, at);
        comparePlaces(x, m, at);
        if (m.facets.size() <= 7) {
            compareOrders(x, m, at);
        }
        compareBySets(x, m, at);
        compareShedding(x, m, at);
        for (int turns = 0; turns < 4; turns++) {
            int seed = random.nextInt(65537);
            CHECKS.due(at + " peeled(" + seed + ")", x.peeled(seed), m.peeled(seed));
        }
    }

    private static void compareFaces(ShellPeel x, Model m, String at) {
        List<Integer> faces = m.faces();
        List<Integer> missing = m.missing();
        int used = 0;
        int common = (1 << m.points) - 1;
        int euler = 0;
        for (int facet : m.facets) {
            used |= facet;
            common &= facet;
        }
        for (int face : faces) {
            euler += Model.many(face) % 2 == 1 ? 1 : -1;
        }
        int[] about = {m.points, m.size, m.facets.size(), faces.size(), used, common, missing.size()};
        for (int what = 0; what < about.length; what++) {
            CHECKS.due(at + " about(" + what + ")", x.about(what), about[what]);
        }
        CHECKS.due(at + " euler()", x.euler(), euler);
        for (int k = 0; k <= m.size; k++) {
            CHECKS.due(at + " faces(" + k + ")", x.faces(k), Model.sizedOf(faces, k).size());
            CHECKS.due(at + " h(" + k + ")", x.h(k), m.h(k));
            CHECKS.due(at + " rank(" + k + ")", x.rank(k), Model.rankOf(faces, k));
            CHECKS.due(at + " round(" + k + ")", x.round(k), Model.roundOf(faces, k));
        }
        List<Integer> dual = m.dual();
        for (int i = 0; i <= missing.size(); i++) {
            CHECKS.due(at + " missing(" + i + ")", x.missing(i), i < missing.size() ? missing.get(i) : -1);
            CHECKS.due(at + " dual(" + i + ")", x.dual(i), i < missing.size() ? dual.get(i) : -1);
        }
        List<Integer> dualFaces = Model.facesOf(dual, m.points);
        for (int k = 0; k <= m.points; k++) {
            CHECKS.due(at + " dualRound(" + k + ")", x.dualRound(k), Model.roundOf(dualFaces, k));
        }
    }

    private static void compareSets(ShellPeel x, Model m, String at) {
        List<Integer> faces = m.faces();
        int unparted = 0;
        for (int set = 0; set < 1 << m.points; set++) {
            int within = 0;
            for (int i = 0; i < m.facets.size(); i++) {
                within |= Model.in(set, m.facets.get(i)) ? 1 << i : 0;
            }
            boolean face = faces.contains(set);
            CHECKS.due(at + " within(" + set + ")", x.within(set), within);
            CHECKS.due(at + " cell(" + set + ")", x.cell(set), m.cell(set));
            CHECKS.due(at + " between(" + set + ")", x.between(set), m.between(set));
            unparted += face && m.between(set) != 1 ? 1 : 0;
            List<Integer> link = m.linkOf(set);
            CHECKS.due(at + " link(" + set + ")", x, x.link(set), face ? link.size() : -1, face ? 0 : 5);
            List<Integer> linkFaces = face ? Model.facesOf(link, m.points) : null;
            for (int k = 0; face && k <= m.size - Model.many(set); k++) {
                CHECKS.due(at + " linkRound(" + set + ", " + k + ")", x.linkRound(set, k), Model.roundOf(linkFaces, k));
            }
            if (link.size() <= 6) {
                CHECKS.due(at + " linkShellings(" + set + ")", x, x.linkShellings(set),
                    face ? Model.shellingsOf(link).size() : -1, face ? 0 : 5);
            }
        }
        CHECKS.due(at + " unparted()", x.unparted(), unparted);
        CHECKS.due(at + " even()", x.even(), m.even() ? 1 : 0);
    }

    private static void comparePlaces(ShellPeel x, Model m, String at) {
        int n = m.facets.size();
        List<Integer> breaks = new ArrayList<>();
        int[] sized = new int[m.size + 1];
        double sum = 0;
        boolean linear = true;
        for (int place = 0; place < n; place++) {
            int restricted = m.restrictedAt(place);
            boolean joins = m.joinsAt(place);
            sized[Model.many(restricted)]++;
            sum += Model.many(restricted);
            if (!joins) {
                breaks.add(place);
            }
            CHECKS.due(at + " joins(" + place + ")", x.joins(place), joins ? 1 : 0);
            CHECKS.due(at + " restricted(" + place + ")", x.restricted(place), restricted);
            int fresh = 0;
            for (int face : m.faces()) {
                fresh += m.cell(face) == place ? 1 : 0;
            }
            CHECKS.due(at + " fresh(" + place + ")", x.fresh(place), fresh);
            List<Integer> leaps = m.leaps(place);
            CHECKS.due(at + " leaps(" + place + ")", x.leaps(place), leaps.size());
            for (int i = 0; i <= leaps.size(); i++) {
                CHECKS.due(at + " leap(" + place + ", " + i + ")", x.leap(place, i), i < leaps.size() ? leaps.get(i) : -1);
            }
            for (int leap : leaps) {
                linear &= Model.many(leap) == 1;
            }
            int near = 0;
            for (int j = 0; j < n; j++) {
                near |= m.near(place, j) ? 1 << j : 0;
                CHECKS.due(at + " apart(" + place + ", " + j + ")", x.apart(place, j), m.apart(place, j));
            }
            CHECKS.due(at + " near(" + place + ")", x.near(place), near);
        }
        for (int i = 0; i <= breaks.size(); i++) {
            CHECKS.dueBreak(at + " breaks(" + i + ")", x, i, i < breaks.size() ? breaks.get(i) : -99);
        }
        for (int k = 0; k <= m.size; k++) {
            long rebuilt = 0;
            for (int i = 0; i <= k; i++) {
                rebuilt += sized[i] * Model.choose(m.size - i, k - i);
            }
            CHECKS.due(at + " sized(" + k + ")", x.sized(k), sized[k]);
            CHECKS.due(at + " rebuilt(" + k + ")", x.rebuilt(k), rebuilt);
        }
        List<Integer> spanning = m.spanning();
        for (int i = 0; i <= spanning.size(); i++) {
            boolean there = i < spanning.size();
            CHECKS.due(at + " spanning(" + i + ")", x.spanning(i), there ? spanning.get(i) : -1);
            CHECKS.due(at + " cycle(" + i + ")", x, x.cycle(i),
                !there ? -1 : breaks.isEmpty() ? m.cycle(spanning.get(i)) : -2, there ? 0 : 1);
        }
        CHECKS.due(at + " mean()", x.mean(), sum / n);
        CHECKS.due(at + " linear()", x.linear(), linear ? 1 : 0);
        CHECKS.due(at + " swaps()", x.swaps(), m.swaps());
    }

    private static void compareOrders(ShellPeel x, Model m, String at) {
        int n = m.facets.size();
        List<int[]> all = Model.shellingsOf(m.facets);
        CHECKS.due(at + " shellings()", x.shellings(), all.size());
        int peelable = 0;
        for (int[] row : all) {
            peelable |= 1 << row[n - 1];
        }
        CHECKS.due(at + " peelable()", x.peelable(), peelable);
        for (int place = 0; place < n; place++) {
            CHECKS.due(at + " shelled(" + place + ")", x.shelled(place), all.isEmpty() ? -2 : all.get(0)[place]);
        }
        for (int begun = 0; begun <= n; begun++) {
            CHECKS.due(at + " goesOn(" + begun + ")", x.goesOn(begun), m.goesOn(begun, all));
        }
        CHECKS.due(at + " stuck()", x.stuck(), m.stuck(all));
        CHECKS.due(at + " obstruction()", x.obstruction(), m.obstruction());
    }

    /** All orders once more, by sets of facets, which goes for many facets too. */
    private static void compareBySets(ShellPeel x, Model m, String at) {
        int n = m.facets.size();
        int[] rowable = m.rowable();
        long[] onward = m.onward(rowable);
        CHECKS.due(at + " shellings() by sets", x.shellings(), onward[0]);
        int stuck = -2;
        for (int some = 0; some < rowable.length; some++) {
            if (rowable[some] >= 0 && onward[some] == 0 && (stuck < 0 || Model.many(some) < Model.many(stuck))) {
                stuck = some;
            }
        }
        CHECKS.due(at + " stuck() by sets", x.stuck(), stuck);
        int peelable = 0;
        for (int i = 0; i < n; i++) {
            int others = rowable.length - 1 & ~(1 << i);
            peelable |= rowable[others] >= 0 ? rowable[others] & 1 << i : 0;
        }
        CHECKS.due(at + " peelable() by sets", x.peelable(), peelable);
        int begun = 0;
        for (int place = 0; place < n; place++) {
            int least = -2;
            for (int i = n - 1; i >= 0 && onward[0] > 0; i--) {
                least = (rowable[begun] >> i & 1) == 1 && onward[begun | 1 << i] > 0 ? i : least;
            }
            CHECKS.due(at + " shelled(" + place + ") by sets", x.shelled(place), least);
            begun |= least < 0 ? 0 : 1 << least;
        }
        int ahead = 0;
        boolean good = true;
        for (int place = 0; place < n; place++) {
            CHECKS.due(at + " goesOn(" + place + ") by sets", x.goesOn(place), good ? onward[ahead] : 0);
            good &= m.joinsAt(place);
            ahead |= 1 << m.order.get(place);
        }
        CHECKS.due(at + " goesOn(" + n + ") by sets", x.goesOn(n), good ? 1 : 0);
    }

    private static void compareShedding(ShellPeel x, Model m, String at) {
        int shed = 0;
        for (int p = 0; p < m.points; p++) {
            shed |= Model.shedding(m.facets, p) != null ? 1 << p : 0;
        }
        CHECKS.due(at + " shed()", x.shed(), shed);
        CHECKS.due(at + " first()", x.first(), Model.firstOf(m.facets, m.points));
    }
}
