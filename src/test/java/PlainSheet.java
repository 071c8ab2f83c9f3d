import java.util.ArrayList;
import java.util.Arrays;
import java.util.List;

/**
 * The document once more, in the slowest and plainest way that is bearable, and by other ways than BroadSheet: the
 * net of READINGS is searched each time, THE BEST SETTINGS are grown from the first PLACE on, whole CUTS and whole
 * TOURS are compared with one another.
 */
final class PlainSheet {
    static final int LOST = -1000000;

    private int places = 8;
    private int next = 20;
    private int bend = 40;
    private int main = 10;
    private int side = 0;
    private int[] bases = new int[8];
    private int[] settings = new int[8];
    private final List<int[]> readings = new ArrayList<>();
    private final List<int[]> kinds = new ArrayList<>();
    private int grades = 0;
    private final int[][] costs = new int[9][9];

    PlainSheet() {
        for (int[] row : costs) {
            Arrays.fill(row, 100);
        }
    }

    private boolean noPlace(int p) {
        return p < 0 || p >= places;
    }

    private boolean noGrade(int g) {
        return g < 0 || g >= grades;
    }

    int sheet(int n) {
        if (n < 2 || n > 24) return -2;
        int before = places;
        places = n;
        bases = new int[n];
        settings = new int[n];
        readings.clear();
        kinds.clear();
        return before;
    }

    /** Heights of all knots (PLACES 0 to 23, TIMES from 24 on) that hang together with one; null for the others. */
    private Integer[] netFrom(int knot) {
        Integer[] number = new Integer[64];
        number[knot] = 0;
        for (int round = 0; round < 64; round++) {
            for (int[] r : readings) {
                if (r[3] == 0) continue;
                int t = 24 + r[0];
                int p = r[1];
                if (number[t] != null && number[p] == null) number[p] = r[2] - number[t];
                if (number[p] != null && number[t] == null) number[t] = r[2] - number[p];
            }
        }
        return number;
    }

    int read(int t, int p, int v) {
        if (noPlace(p)) return -1;
        if (t < 0 || t > 39 || v < -1000 || v > 1000) return -2;
        if (readings.size() == 100) return -4;
        Integer[] number = netFrom(24 + t);
        int fits = number[p] == null || number[p] == v ? 1 : 0;
        readings.add(new int[] {t, p, v, fits});
        return fits;
    }

    int reading(int i, int what) {
        if (i < 0 || i >= readings.size()) return LOST - 1;
        if (what < 0 || what > 3) return LOST - 2;
        return readings.get(i)[what];
    }

    int across(int p) {
        if (noPlace(p)) return LOST - 1;
        // ACROSS of PLACE 0 taken as 0, so that what the net tells is ACROSS itself.
        Integer a = netFrom(0)[p];
        return a == null ? LOST - 5 : a;
    }

    int along(int t, int o) {
        if (t < 0 || t > 39 || o < 0 || o > 39) return LOST - 1;
        Integer a = netFrom(24 + o)[24 + t];
        return a == null ? LOST - 5 : a;
    }

    int groups() {
        boolean[] seen = new boolean[24];
        int found = 0;
        for (int p = 0; p < places; p++) {
            if (seen[p]) continue;
            found++;
            Integer[] number = netFrom(p);
            for (int q = 0; q < places; q++) {
                if (number[q] != null) seen[q] = true;
            }
        }
        return found;
    }

    int take() {
        int[] taken = new int[places];
        for (int p = 0; p < places; p++) {
            taken[p] = across(p);
            if (Math.abs(taken[p]) > 2000) return -5;
        }
        bases = taken;
        return 1;
    }

    int clear() {
        int n = readings.size();
        readings.clear();
        return n;
    }

    private static boolean lawful(int[] x, int next, int bend) {
        for (int p = 0; p + 1 < x.length; p++) {
            if (Math.abs(x[p] - x[p + 1]) > next) return false;
        }
        for (int p = 1; p + 1 < x.length; p++) {
            if (Math.abs(2 * x[p] - x[p - 1] - x[p + 1]) > bend) return false;
        }
        return true;
    }

    int laws(int n, int b) {
        if (n < 0 || n > 20 || b < 0 || b > 40) return -2;
        if (!lawful(settings, n, b)) return -5;
        next = n;
        bend = b;
        return 1;
    }

    int spread(int m, int s) {
        if (m < 1 || m > 20 || s < -5 || s > 5) return -2;
        main = m;
        side = s;
        return 1;
    }

    int base(int p, int v) {
        if (noPlace(p)) return -1;
        if (v < -2000 || v > 2000) return -2;
        bases[p] = v;
        return 1;
    }

    int set(int p, int x) {
        if (noPlace(p)) return -1;
        if (x < -10 || x > 10) return -2;
        int[] would = settings.clone();
        would[p] = x;
        if (!lawful(would, next, bend)) return -5;
        settings = would;
        return 1;
    }

    private int error(int[] x, int p) {
        int e = bases[p] + main * x[p];
        if (p > 0) e += side * x[p - 1];
        if (p + 1 < places) e += side * x[p + 1];
        return e;
    }

    int about(int p, int what) {
        if (noPlace(p)) return LOST - 1;
        if (what < 0 || what > 2) return LOST - 2;
        return what == 0 ? settings[p] : what == 1 ? bases[p] : error(settings, p);
    }

    int uneven(int kind) {
        if (kind < 0 || kind > 1) return -2;
        return unevenBy(settings, kind);
    }

    private int unevenBy(int[] x, int kind) {
        int all = 0;
        for (int p = 0; p < places; p++) {
            int size = Math.abs(error(x, p));
            all = kind == 0 ? all + size : Math.max(all, size);
        }
        return all;
    }

    int best(int kind) {
        if (kind < 0 || kind > 1) return -2;
        if (places <= 3) {
            settings = bestOfAll(kind);
        } else {
            int least = unevenBy(grown(kind, Integer.MAX_VALUE), kind);
            settings = grown(kind, least);
        }
        return unevenBy(settings, kind);
    }

    /** Every setting there is, in order, the first of the least. */
    private int[] bestOfAll(int kind) {
        int[] x = new int[places];
        Arrays.fill(x, -10);
        int[] best = null;
        while (true) {
            if (lawful(x, next, bend) && (best == null || unevenBy(x, kind) < unevenBy(best, kind))) best = x.clone();
            int p = places - 1;
            while (p >= 0 && x[p] == 10) x[p--] = -10;
            if (p < 0) return best;
            x[p]++;
        }
    }

    /**
     * Beginnings grown PLACE by PLACE: for each pair of last SETTINGS the least beginning. Of the greatest size,
     * beginnings within a bound are all alike, so the first of them is kept; without a bound the evenest is.
     */
    private int[] grown(int kind, int bound) {
        Beginning[][] now = new Beginning[21][21];
        for (int a = -10; a <= 10; a++) {
            for (int b = -10; b <= 10; b++) {
                if (Math.abs(a - b) > next) continue;
                int own = Math.abs(bases[0] + main * a + side * b);
                if (own <= bound) now[a + 10][b + 10] = new Beginning(own, new int[] {a, b});
            }
        }
        for (int p = 1; p < places; p++) {
            now = grownBy(now, p, kind, bound);
        }
        Beginning best = null;
        for (Beginning[] row : now) {
            for (Beginning one : row) {
                if (one != null && (best == null || one.before(best, kind == 1 && bound < Integer.MAX_VALUE))) best = one;
            }
        }
        return Arrays.copyOf(best.x, places);
    }

    private Beginning[][] grownBy(Beginning[][] now, int p, int kind, int bound) {
        boolean last = p == places - 1;
        Beginning[][] then = new Beginning[21][21];
        for (Beginning[] row : now) {
            for (Beginning one : row) {
                if (one == null) continue;
                int a = one.x[p - 1];
                int b = one.x[p];
                for (int c = -10; c <= 10; c++) {
                    if (last ? c != 0 : Math.abs(b - c) > next || Math.abs(2 * b - a - c) > bend) continue;
                    int own = Math.abs(bases[p] + main * b + side * a + (last ? 0 : side * c));
                    int all = kind == 0 ? one.sum + own : Math.max(one.sum, own);
                    if (all > bound) continue;
                    int[] x = Arrays.copyOf(one.x, p + 2);
                    x[p + 1] = c;
                    Beginning grown = new Beginning(all, x);
                    Beginning old = then[b + 10][c + 10];
                    if (old == null || grown.before(old, kind == 1 && bound < Integer.MAX_VALUE)) then[b + 10][c + 10] = grown;
                }
            }
        }
        return then;
    }

    private record Beginning(int sum, int[] x) {
        boolean before(Beginning o, boolean sumsAreAlike) {
            if (!sumsAreAlike && sum != o.sum) return sum < o.sum;
            return Arrays.compare(x, o.x) < 0;
        }
    }

    int kind(int w, int price, int bound) {
        if (w < 1 || w > 24 || price < 1 || price > 1000 || bound < 0 || bound > 2000) return -2;
        if (kinds.size() == 4) return -4;
        kinds.add(new int[] {w, price, bound});
        return kinds.size() - 1;
    }

    int canLie(int k, int p) {
        if (k < 0 || k >= kinds.size() || noPlace(p)) return -1;
        int[] kind = kinds.get(k);
        if (p + kind[0] > places) return 0;
        for (int q = p; q < p + kind[0]; q++) {
            if (Math.abs(error(settings, q)) > kind[2]) return 0;
        }
        return 1;
    }

    /** Of each PLACE on, the best whole CUT: [price, kind or 99 at each PLACE]; 99 stands behind all kinds. */
    private int[] wholeCut() {
        int[][] from = new int[places + 1][];
        from[places] = new int[places + 1];
        Arrays.fill(from[places], 99);
        from[places][0] = 0;
        for (int p = places - 1; p >= 0; p--) {
            int[] best = from[p + 1];
            for (int k = 0; k < kinds.size(); k++) {
                if (canLie(k, p) != 1) continue;
                int[] one = from[p + kinds.get(k)[0]].clone();
                one[0] += kinds.get(k)[1];
                one[p + 1] = k;
                if (one[0] > best[0] || one[0] == best[0] && Arrays.compare(one, best) < 0) best = one;
            }
            from[p] = best;
        }
        return from[0];
    }

    int cut() {
        return wholeCut()[0];
    }

    int cutAt(int p) {
        if (noPlace(p)) return -1;
        int k = wholeCut()[p + 1];
        return k == 99 ? -6 : k;
    }

    int grade() {
        return grades == 9 ? -4 : grades++;
    }

    int cost(int a, int b, int c) {
        if (noGrade(a) || noGrade(b)) return -1;
        if (c < 0 || c > 1000) return -2;
        if (a == b) return -5;
        int before = costs[a][b];
        costs[a][b] = c;
        return before;
    }

    private int[] bestTour;
    private int bestCosts;

    /** All orders, the lesser first, so that the first of the cheapest stays. */
    private void orders(int[] order, int n, int used, int sum) {
        if (n == grades) {
            if (sum < bestCosts) {
                bestCosts = sum;
                bestTour = order.clone();
            }
            return;
        }
        for (int g = 0; g < grades; g++) {
            if ((used >> g & 1) != 0) continue;
            order[n] = g;
            orders(order, n + 1, used | 1 << g, sum + costs[order[n - 1]][g]);
        }
    }

    private void findTour(int from) {
        bestCosts = Integer.MAX_VALUE;
        int[] order = new int[grades];
        order[0] = from;
        orders(order, 1, 1 << from, 0);
    }

    int tour(int from) {
        if (noGrade(from)) return -1;
        findTour(from);
        return bestCosts;
    }

    int tourAt(int from, int i) {
        if (noGrade(from)) return -1;
        if (i < 0 || i >= grades) return -6;
        findTour(from);
        return bestTour[i];
    }

    int told(int what) {
        int fit = 0;
        for (int[] r : readings) fit += r[3];
        int[] all = {places, readings.size(), fit, kinds.size(), grades, next, bend, main, side};
        return what < 0 || what > 8 ? -1002 : all[what];
    }
}
