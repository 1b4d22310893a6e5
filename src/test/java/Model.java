import java.util.ArrayList;
import java.util.Arrays;
import java.util.List;
import java.util.TreeSet;

/** What the document says, written down as plainly and as slowly as it is said: lists, all rows, all sets. */
final class Model {
    int points;
    int size;
    List<Integer> facets = new ArrayList<>();
    List<Integer> order = new ArrayList<>();

    Model(int points, int size, List<Integer> facets) {
        this.points = points;
        this.size = size;
        this.facets.addAll(facets);
        for (int i = 0; i < facets.size(); i++) {
            order.add(i);
        }
    }

    static boolean in(int small, int large) {
        return (small & large) == small;
    }

    static int many(int set) {
        int found = 0;
        for (int p = 0; p < 31; p++) {
            found += set >> p & 1;
        }
        return found;
    }

    static long choose(int n, int k) {
        return k < 0 || k > n ? 0 : k == 0 ? 1 : choose(n - 1, k - 1) + choose(n - 1, k);
    }

    // ---- faces of any list of sets

    static List<Integer> facesOf(List<Integer> facets, int points) {
        List<Integer> faces = new ArrayList<>();
        for (int set = 0; set < 1 << points; set++) {
            for (int facet : facets) {
                if (in(set, facet)) {
                    faces.add(set);
                    break;
                }
            }
        }
        return faces;
    }

    static List<Integer> sizedOf(List<Integer> faces, int k) {
        List<Integer> found = new ArrayList<>();
        for (int face : faces) {
            if (many(face) == k) {
                found.add(face);
            }
        }
        return found;
    }

    static int rankOf(List<Integer> faces, int k) {
        if (k <= 0) {
            return 0;
        }
        List<Integer> down = sizedOf(faces, k);
        List<Integer> along = sizedOf(faces, k - 1);
        boolean[][] table = new boolean[down.size()][along.size()];
        for (int r = 0; r < down.size(); r++) {
            for (int c = 0; c < along.size(); c++) {
                table[r][c] = in(along.get(c), down.get(r));
            }
        }
        int rank = 0;
        for (int c = 0; c < along.size(); c++) {
            int pivot = -1;
            for (int r = rank; r < down.size() && pivot < 0; r++) {
                if (table[r][c]) {
                    pivot = r;
                }
            }
            if (pivot >= 0) {
                boolean[] kept = table[pivot];
                table[pivot] = table[rank];
                table[rank] = kept;
                for (int r = 0; r < down.size(); r++) {
                    for (int d = 0; r != rank && table[r][c] && d < along.size(); d++) {
                        if (d != c) {
                            table[r][d] ^= kept[d];
                        }
                    }
                    if (r != rank) {
                        table[r][c] = false;
                    }
                }
                rank++;
            }
        }
        return rank;
    }

    static int roundOf(List<Integer> faces, int k) {
        return sizedOf(faces, k).size() - rankOf(faces, k) - rankOf(faces, k + 1);
    }

    List<Integer> faces() {
        return facesOf(facets, points);
    }

    List<Integer> missing() {
        List<Integer> faces = faces();
        List<Integer> found = new ArrayList<>();
        for (int set = 0; set < 1 << points; set++) {
            boolean good = !faces.contains(set);
            for (int p = 0; p < points; p++) {
                if ((set >> p & 1) == 1) {
                    good &= faces.contains(set ^ 1 << p);
                }
            }
            if (good) {
                found.add(set);
            }
        }
        return found;
    }

    List<Integer> dual() {
        List<Integer> found = new ArrayList<>();
        for (int set : missing()) {
            found.add((1 << points) - 1 - set);
        }
        return found;
    }

    long h(int k) {
        long sum = 0;
        for (int i = 0; i <= k; i++) {
            long part = sizedOf(faces(), i).size() * choose(size - i, k - i);
            sum += (k - i) % 2 == 0 ? part : -part;
        }
        return sum;
    }

    boolean near(int i, int j) {
        return i != j && many(facets.get(i) & facets.get(j)) == size - 1;
    }

    int apart(int from, int to) {
        int n = facets.size();
        int[][] far = new int[n][n];
        for (int i = 0; i < n; i++) {
            for (int j = 0; j < n; j++) {
                far[i][j] = i == j ? 0 : near(i, j) ? 1 : 1000;
            }
        }
        for (int m = 0; m < n; m++) {
            for (int i = 0; i < n; i++) {
                for (int j = 0; j < n; j++) {
                    far[i][j] = Math.min(far[i][j], far[i][m] + far[m][j]);
                }
            }
        }
        return far[from][to] >= 1000 ? -2 : far[from][to];
    }

    // ---- joining, of sets rather than numbers

    static boolean joins(int facet, List<Integer> others) {
        for (int other : others) {
            boolean met = false;
            for (int close : others) {
                met |= many(facet & close) == many(facet) - 1 && in(facet & other, facet & close);
            }
            if (!met) {
                return false;
            }
        }
        return true;
    }

    static int restriction(int facet, List<Integer> ahead) {
        int found = 0;
        for (int p = 0; p < 7; p++) {
            for (int other : ahead) {
                if ((facet >> p & 1) == 1 && in(facet ^ 1 << p, other)) {
                    found |= 1 << p;
                }
            }
        }
        return found;
    }

    List<Integer> row() {
        List<Integer> row = new ArrayList<>();
        for (int i : order) {
            row.add(facets.get(i));
        }
        return row;
    }

    boolean joinsAt(int place) {
        return joins(row().get(place), row().subList(0, place));
    }

    int restrictedAt(int place) {
        return restriction(row().get(place), row().subList(0, place));
    }

    static int goodOf(List<Integer> row) {
        for (int place = 0; place < row.size(); place++) {
            if (!joins(row.get(place), row.subList(0, place))) {
                return place;
            }
        }
        return row.size();
    }

    List<Integer> spanning() {
        List<Integer> found = new ArrayList<>();
        for (int place = 0; place < order.size(); place++) {
            if (many(restrictedAt(place)) == size) {
                found.add(place);
            }
        }
        return found;
    }

    /** All cycles by trying all sets of facets; -77 if there isn't just one. */
    int cycle(int place) {
        int plain = 0;
        for (int at = 0; at < order.size(); at++) {
            if (!spanning().contains(at)) {
                plain |= 1 << order.get(at);
            }
        }
        int answer = -77;
        int found = 0;
        List<Integer> ridges = sizedOf(faces(), size - 1);
        for (int some = 0; some < 1 << facets.size(); some++) {
            if (!in(some, plain)) {
                continue;
            }
            int all = some | 1 << order.get(place);
            boolean good = true;
            for (int ridge : ridges) {
                int lies = 0;
                for (int i = 0; i < facets.size(); i++) {
                    lies += (all >> i & 1) == 1 && in(ridge, facets.get(i)) ? 1 : 0;
                }
                good &= lies % 2 == 0;
            }
            if (good) {
                answer = all;
                found++;
            }
        }
        return found == 1 ? answer : -77;
    }

    int cell(int face) {
        for (int place = 0; place < order.size(); place++) {
            if (in(face, row().get(place))) {
                return place;
            }
        }
        return -2;
    }

    int between(int face) {
        int found = 0;
        for (int place = 0; place < order.size(); place++) {
            found += in(face, row().get(place)) && in(restrictedAt(place), face) ? 1 : 0;
        }
        return found;
    }

    int swaps() {
        int found = 0;
        for (int place = 0; place + 1 < order.size(); place++) {
            List<Integer> row = row();
            int kept = row.get(place);
            row.set(place, row.get(place + 1));
            row.set(place + 1, kept);
            found |= goodOf(row) == row.size() ? 1 << place : 0;
        }
        return found;
    }

    List<Integer> leaps(int place) {
        TreeSet<Integer> all = new TreeSet<>();
        for (int at = 0; at < place; at++) {
            all.add(row().get(place) & ~row().get(at));
        }
        List<Integer> least = new ArrayList<>();
        for (int one : all) {
            boolean good = true;
            for (int other : all) {
                good &= other == one || !in(other, one);
            }
            if (good) {
                least.add(one);
            }
        }
        return least;
    }

    // ---- all orders, one by one

    /** All shellings of a list of sets, as rows of numbers, the least first. */
    static List<int[]> shellingsOf(List<Integer> facets) {
        List<int[]> found = new ArrayList<>();
        goOn(facets, new ArrayList<>(), found);
        return found;
    }

    private static void goOn(List<Integer> facets, List<Integer> begun, List<int[]> found) {
        if (begun.size() == facets.size()) {
            int[] row = new int[begun.size()];
            for (int i = 0; i < row.length; i++) {
                row[i] = begun.get(i);
            }
            found.add(row);
            return;
        }
        for (int i = 0; i < facets.size(); i++) {
            List<Integer> ahead = new ArrayList<>();
            for (int j : begun) {
                ahead.add(facets.get(j));
            }
            if (!begun.contains(i) && joins(facets.get(i), ahead)) {
                begun.add(i);
                goOn(facets, begun, found);
                begun.remove(begun.size() - 1);
            }
        }
    }

    private static int bits(int[] row, int n) {
        int found = 0;
        for (int i = 0; i < n; i++) {
            found |= 1 << row[i];
        }
        return found;
    }

    int goesOn(int n, List<int[]> shellings) {
        int found = 0;
        for (int[] row : shellings) {
            boolean same = true;
            for (int i = 0; i < n; i++) {
                same &= row[i] == order.get(i);
            }
            found += same ? 1 : 0;
        }
        return found;
    }

    int stuck(List<int[]> shellings) {
        int count = facets.size();
        boolean[] begins = new boolean[1 << count];
        for (int[] row : shellings) {
            for (int n = 0; n <= count; n++) {
                begins[bits(row, n)] = true;
            }
        }
        for (int n = 0; n <= count; n++) {
            for (int some = 0; some < 1 << count; some++) {
                if (many(some) == n && !begins[some]) {
                    List<Integer> sets = new ArrayList<>();
                    for (int i = 0; i < count; i++) {
                        if ((some >> i & 1) == 1) {
                            sets.add(facets.get(i));
                        }
                    }
                    if (standsInRow(sets, new ArrayList<>())) {
                        return some;
                    }
                }
            }
        }
        return -2;
    }

    private static boolean standsInRow(List<Integer> sets, List<Integer> begun) {
        if (begun.size() == sets.size()) {
            return true;
        }
        for (int set : sets) {
            if (!begun.contains(set) && joins(set, begun)) {
                begun.add(set);
                if (standsInRow(sets, begun)) {
                    begun.remove(begun.size() - 1);
                    return true;
                }
                begun.remove(begun.size() - 1);
            }
        }
        return false;
    }

    /** The sets (bits) of facets that can stand in a row, each with those that join it; -1 for a set that can't. */
    int[] rowable() {
        int[] next = new int[1 << facets.size()];
        Arrays.fill(next, -1);
        next[0] = 0;
        for (int some = 0; some < next.length; some++) {
            if (next[some] < 0) {
                continue;
            }
            List<Integer> ahead = new ArrayList<>();
            for (int i = 0; i < facets.size(); i++) {
                if ((some >> i & 1) == 1) {
                    ahead.add(facets.get(i));
                }
            }
            for (int i = 0; i < facets.size(); i++) {
                if ((some >> i & 1) == 0 && joins(facets.get(i), ahead)) {
                    next[some] |= 1 << i;
                    next[some | 1 << i] = Math.max(0, next[some | 1 << i]);
                }
            }
        }
        return next;
    }

    /** In how many ways each set that can stand in a row goes on to all facets. */
    long[] onward(int[] rowable) {
        long[] found = new long[rowable.length];
        found[found.length - 1] = rowable[rowable.length - 1] < 0 ? 0 : 1;
        for (int some = found.length - 2; some >= 0; some--) {
            for (int i = 0; i < facets.size(); i++) {
                if (rowable[some] >= 0 && (rowable[some] >> i & 1) == 1) {
                    found[some] += found[some | 1 << i];
                }
            }
        }
        return found;
    }

    int peeled(long seed) {
        List<Integer> left = new ArrayList<>(facets);
        while (left.size() > 1) {
            List<Integer> free = new ArrayList<>();
            for (int facet : left) {
                List<Integer> others = new ArrayList<>(left);
                others.remove((Integer) facet);
                if (joins(facet, others)) {
                    free.add(facet);
                }
            }
            if (free.isEmpty()) {
                break;
            }
            seed = (75 * seed + 74) % 65537;
            left.remove(free.get((int) (seed % free.size())));
        }
        return left.size();
    }

    // ---- links and shedding, with lists made anew

    List<Integer> linkOf(int face) {
        List<Integer> found = new ArrayList<>();
        for (int facet : facets) {
            if (in(face, facet)) {
                found.add(facet & ~face);
            }
        }
        return found;
    }

    boolean even() {
        for (int face : faces()) {
            List<Integer> link = facesOf(linkOf(face), points);
            for (int k = 0; k < size - many(face); k++) {
                if (roundOf(link, k) != 0) {
                    return false;
                }
            }
        }
        return true;
    }

    int obstruction() {
        for (int k = size; k >= 0; k--) {
            for (int face : sizedOf(faces(), k)) {
                if (shellingsOf(linkOf(face)).isEmpty()) {
                    return face;
                }
            }
        }
        return -2;
    }

    static List<List<Integer>> shedding(List<Integer> facets, int p) {
        List<Integer> link = new ArrayList<>();
        List<Integer> without = new ArrayList<>();
        for (int facet : facets) {
            if ((facet >> p & 1) == 1) {
                link.add(facet ^ 1 << p);
            } else {
                without.add(facet);
            }
        }
        if (link.isEmpty() || without.isEmpty()) {
            return null;
        }
        for (int one : link) {
            boolean met = false;
            for (int other : without) {
                met |= in(one, other);
            }
            if (!met) {
                return null;
            }
        }
        return Arrays.asList(link, without);
    }

    static boolean fallsApart(List<Integer> facets, int points) {
        return facets.size() == 1 || firstOf(facets, points) >= 0;
    }

    static int firstOf(List<Integer> facets, int points) {
        for (int p = 0; p < points; p++) {
            List<List<Integer>> parts = shedding(facets, p);
            if (parts != null && fallsApart(parts.get(0), points) && fallsApart(parts.get(1), points)) {
                return p;
            }
        }
        return -2;
    }
}
