import java.util.Arrays;

/**
 * A broad sheet: readings parted into ALONG and ACROSS, lips set as even as their laws let them, sets cut for the
 * greatest worth, grades changed in the cheapest order.
 *
 * The methods of the face look at every argument and refuse; the classes inside take only what has been looked at.
 */
public final class BroadSheet {
    public static final int NONE = -6, UNKNOWN = -1, OUTSIDE = -2, STATE = -3, FULL = -4, NO = -5;
    public static final int LOST = -1000000;

    private static final int FEWEST_PLACES = 2, MOST_PLACES = 24, PLACES_AT_FIRST = 8;
    private static final int MOST_READINGS = 100, TIMES = 40, MOST_VALUE = 1000;
    private static final int MOST_BASE = 2000, MOST_SETTING = 10;
    private static final int MOST_NEXT = 20, MOST_BEND = 40, MOST_MAIN = 20, MOST_SIDE = 5, MAIN_AT_FIRST = 10;
    private static final int MOST_KINDS = 4, MOST_PRICE = 1000, MOST_BOUND = 2000;
    private static final int MOST_GRADES = 9, MOST_COST = 1000, COST_AT_FIRST = 100;
    private static final int SUM = 0, GREATEST = 1;
    // SIDE may be -2, so told() cannot answer OUTSIDE as it stands.
    private static final int TOLD_OUTSIDE = -1002;

    private final Eye eye;
    private final Lips lips;
    private final Sets sets;
    private final Grades grades;

    public BroadSheet() {
        eye = new Eye();
        lips = new Lips();
        sets = new Sets(lips);
        grades = new Grades();
    }

    public int sheet(int places) {
        if (!within(places, FEWEST_PLACES, MOST_PLACES)) {
            return OUTSIDE;
        }
        int before = lips.places();
        eye.forget();
        sets.forget();
        lips.renew(places);
        return before;
    }

    // ---- 1 the eye

    public int read(int time, int place, int value) {
        if (!isPlace(place)) {
            return UNKNOWN;
        }
        if (!isTime(time) || !within(value, -MOST_VALUE, MOST_VALUE)) {
            return OUTSIDE;
        }
        if (eye.count() >= MOST_READINGS) {
            return FULL;
        }
        return eye.add(time, place, value) ? 1 : 0;
    }

    public int reading(int i, int what) {
        if (!within(i, 0, eye.count() - 1)) {
            return LOST + UNKNOWN;
        }
        switch (what) {
            case 0:
                return eye.timeOf(i);
            case 1:
                return eye.placeOf(i);
            case 2:
                return eye.valueOf(i);
            case 3:
                return eye.isFitting(i) ? 1 : 0;
            default:
                return LOST + OUTSIDE;
        }
    }

    public int across(int place) {
        if (!isPlace(place)) {
            return LOST + UNKNOWN;
        }
        return eye.hasAcross(place) ? eye.acrossOf(place) : LOST + NO;
    }

    public int along(int time, int other) {
        if (!isTime(time) || !isTime(other)) {
            return LOST + UNKNOWN;
        }
        return eye.timesHangTogether(time, other) ? eye.moreAlong(time, other) : LOST + NO;
    }

    public int groups() {
        return eye.countGroups(lips.places());
    }

    public int take() {
        int places = lips.places();
        // All are looked at ahead of the first change: a refused call changes nothing.
        for (int p = 0; p < places; p++) {
            if (!eye.hasAcross(p) || !within(eye.acrossOf(p), -MOST_BASE, MOST_BASE)) {
                return NO;
            }
        }
        for (int p = 0; p < places; p++) {
            lips.putBase(p, eye.acrossOf(p));
        }
        return 1;
    }

    public int clear() {
        int before = eye.count();
        eye.forget();
        return before;
    }

    // ---- 2 lips

    public int laws(int next, int bend) {
        if (!within(next, 0, MOST_NEXT) || !within(bend, 0, MOST_BEND)) {
            return OUTSIDE;
        }
        if (!lips.isLawful(next, bend)) {
            return NO;
        }
        lips.putLaws(next, bend);
        return 1;
    }

    public int spread(int main, int side) {
        if (!within(main, 1, MOST_MAIN) || !within(side, -MOST_SIDE, MOST_SIDE)) {
            return OUTSIDE;
        }
        lips.putSpread(main, side);
        return 1;
    }

    public int base(int place, int v) {
        if (!isPlace(place)) {
            return UNKNOWN;
        }
        if (!within(v, -MOST_BASE, MOST_BASE)) {
            return OUTSIDE;
        }
        lips.putBase(place, v);
        return 1;
    }

    public int set(int place, int x) {
        if (!isPlace(place)) {
            return UNKNOWN;
        }
        if (!within(x, -MOST_SETTING, MOST_SETTING)) {
            return OUTSIDE;
        }
        return lips.trySetting(place, x) ? 1 : NO;
    }

    public int about(int place, int what) {
        if (!isPlace(place)) {
            return LOST + UNKNOWN;
        }
        switch (what) {
            case 0:
                return lips.settingOf(place);
            case 1:
                return lips.baseOf(place);
            case 2:
                return lips.errorOf(place);
            default:
                return LOST + OUTSIDE;
        }
    }

    public int uneven(int kind) {
        if (!within(kind, SUM, GREATEST)) {
            return OUTSIDE;
        }
        return lips.unevenness(kind == SUM);
    }

    public int best(int kind) {
        if (!within(kind, SUM, GREATEST)) {
            return OUTSIDE;
        }
        return lips.settle(kind == SUM);
    }

    // ---- 3 sets

    public int kind(int width, int price, int bound) {
        if (!within(width, 1, MOST_PLACES) || !within(price, 1, MOST_PRICE) || !within(bound, 0, MOST_BOUND)) {
            return OUTSIDE;
        }
        if (sets.count() >= MOST_KINDS) {
            return FULL;
        }
        return sets.add(width, price, bound);
    }

    public int canLie(int kind, int place) {
        if (!within(kind, 0, sets.count() - 1) || !isPlace(place)) {
            return UNKNOWN;
        }
        return sets.lies(kind, place) ? 1 : 0;
    }

    public int cut() {
        return sets.plan();
    }

    public int cutAt(int place) {
        if (!isPlace(place)) {
            return UNKNOWN;
        }
        sets.plan();
        return sets.plannedAt(place);
    }

    // ---- 4 grades

    public int grade() {
        if (grades.count() >= MOST_GRADES) {
            return FULL;
        }
        return grades.add();
    }

    public int cost(int from, int to, int c) {
        if (!isGrade(from) || !isGrade(to)) {
            return UNKNOWN;
        }
        if (!within(c, 0, MOST_COST)) {
            return OUTSIDE;
        }
        if (from == to) {
            return NO;
        }
        return grades.putCost(from, to, c);
    }

    public int tour(int from) {
        if (!isGrade(from)) {
            return UNKNOWN;
        }
        return grades.leastCosts(from);
    }

    public int tourAt(int from, int i) {
        if (!isGrade(from)) {
            return UNKNOWN;
        }
        if (!isGrade(i)) {
            // A TOUR has as many steps as there are GRADES, so what numbers no GRADE numbers no step.
            return NONE;
        }
        return grades.stepOf(from, i);
    }

    public int told(int what) {
        switch (what) {
            case 0:
                return lips.places();
            case 1:
                return eye.count();
            case 2:
                return eye.fittingCount();
            case 3:
                return sets.count();
            case 4:
                return grades.count();
            case 5:
                return lips.nextLaw();
            case 6:
                return lips.bendLaw();
            case 7:
                return lips.mainSpread();
            case 8:
                return lips.sideSpread();
            default:
                return TOLD_OUTSIDE;
        }
    }

    private boolean isPlace(int place) {
        return within(place, 0, lips.places() - 1);
    }

    private boolean isGrade(int number) {
        return within(number, 0, grades.count() - 1);
    }

    private static boolean isTime(int time) {
        return within(time, 0, TIMES - 1);
    }

    private static boolean within(int number, int least, int most) {
        return number >= least && number <= most;
    }

    /**
     * READINGS, and what hangs together by them. PLACES and TIMES are knots of one net. The height of a TIME is its
     * ALONG and that of a PLACE its ACROSS with the sign turned, so that a READING is a difference of two heights and
     * a whole group can be lifted without breaking any of its READINGS.
     */
    static final class Eye {
        private static final int KNOTS = MOST_PLACES + TIMES;

        private final int[] times = new int[MOST_READINGS];
        private final int[] places = new int[MOST_READINGS];
        private final int[] values = new int[MOST_READINGS];
        private final boolean[] fitting = new boolean[MOST_READINGS];
        private int count;
        private int fittingCount;
        private final int[] group = new int[KNOTS];
        private final int[] height = new int[KNOTS];

        Eye() {
            forget();
        }

        void forget() {
            count = 0;
            fittingCount = 0;
            for (int knot = 0; knot < KNOTS; knot++) {
                group[knot] = knot;
                height[knot] = 0;
            }
        }

        boolean add(int time, int place, int value) {
            boolean fits = fit(knotOfTime(time), place, value);
            times[count] = time;
            places[count] = place;
            values[count] = value;
            fitting[count] = fits;
            count++;
            if (fits) {
                fittingCount++;
            }
            return fits;
        }

        private boolean fit(int timeKnot, int placeKnot, int value) {
            if (group[timeKnot] == group[placeKnot]) {
                return height[timeKnot] - height[placeKnot] == value;
            }
            int lift = height[timeKnot] - value - height[placeKnot];
            int joining = group[placeKnot];
            int kept = group[timeKnot];
            for (int knot = 0; knot < KNOTS; knot++) {
                if (group[knot] == joining) {
                    group[knot] = kept;
                    height[knot] += lift;
                }
            }
            return true;
        }

        private static int knotOfTime(int time) {
            return MOST_PLACES + time;
        }

        int count() {
            return count;
        }

        int fittingCount() {
            return fittingCount;
        }

        int timeOf(int i) {
            return times[i];
        }

        int placeOf(int i) {
            return places[i];
        }

        int valueOf(int i) {
            return values[i];
        }

        boolean isFitting(int i) {
            return fitting[i];
        }

        boolean hasAcross(int place) {
            return group[place] == group[0];
        }

        int acrossOf(int place) {
            return height[0] - height[place];
        }

        boolean timesHangTogether(int time, int other) {
            return group[knotOfTime(time)] == group[knotOfTime(other)];
        }

        int moreAlong(int time, int other) {
            return height[knotOfTime(time)] - height[knotOfTime(other)];
        }

        int countGroups(int placeCount) {
            int found = 0;
            for (int p = 0; p < placeCount; p++) {
                if (isFirstOfGroup(p)) {
                    found++;
                }
            }
            return found;
        }

        private boolean isFirstOfGroup(int place) {
            for (int p = 0; p < place; p++) {
                if (group[p] == group[place]) {
                    return false;
                }
            }
            return true;
        }
    }

    /**
     * BASES, SETTINGS and LAWS. THE BEST SETTINGS are found from the last PLACE back: an ERROR and a bend reach over
     * three neighbours, so what the PLACES from one on can come to hangs on its SETTING and the one ahead of it alone.
     */
    static final class Lips {
        private static final int SETTINGS = 2 * MOST_SETTING + 1;
        // Above every sum of ERRORS: 24 times (2000 + 20 * 10 + 2 * 5 * 10).
        private static final int IMPOSSIBLE = 1000000;

        private final int[] bases = new int[MOST_PLACES];
        private final int[] settings = new int[MOST_PLACES];
        private int places = PLACES_AT_FIRST;
        private int next = MOST_NEXT;
        private int bend = MOST_BEND;
        private int main = MAIN_AT_FIRST;
        private int side;
        private final int[] rest = new int[MOST_PLACES * SETTINGS * SETTINGS];

        void renew(int placeCount) {
            places = placeCount;
            Arrays.fill(bases, 0);
            Arrays.fill(settings, 0);
        }

        int places() {
            return places;
        }

        int nextLaw() {
            return next;
        }

        int bendLaw() {
            return bend;
        }

        int mainSpread() {
            return main;
        }

        int sideSpread() {
            return side;
        }

        int baseOf(int place) {
            return bases[place];
        }

        int settingOf(int place) {
            return settings[place];
        }

        void putLaws(int newNext, int newBend) {
            next = newNext;
            bend = newBend;
        }

        void putSpread(int newMain, int newSide) {
            main = newMain;
            side = newSide;
        }

        void putBase(int place, int value) {
            bases[place] = value;
        }

        boolean trySetting(int place, int x) {
            int before = settings[place];
            settings[place] = x;
            if (isLawful(next, bend)) {
                return true;
            }
            settings[place] = before;
            return false;
        }

        boolean isLawful(int byNext, int byBend) {
            for (int p = 1; p < places; p++) {
                if (Math.abs(settings[p] - settings[p - 1]) > byNext) {
                    return false;
                }
                if (p >= 2 && Math.abs(2 * settings[p - 1] - settings[p - 2] - settings[p]) > byBend) {
                    return false;
                }
            }
            return true;
        }

        int errorOf(int place) {
            int error = bases[place] + main * settings[place];
            if (place > 0) {
                error += side * settings[place - 1];
            }
            if (place < places - 1) {
                error += side * settings[place + 1];
            }
            return error;
        }

        int sizeOf(int place) {
            return Math.abs(errorOf(place));
        }

        int unevenness(boolean sum) {
            int all = 0;
            for (int p = 0; p < places; p++) {
                all = together(all, sizeOf(p), sum);
            }
            return all;
        }

        private static int together(int one, int other, boolean sum) {
            return sum ? one + other : Math.max(one, other);
        }

        int settle(boolean sum) {
            weighLast();
            for (int p = places - 2; p >= 1; p--) {
                weigh(p, sum);
            }
            int least = settleFirstTwo(sum);
            int spent = sizeOf(0);
            for (int p = 1; p < places - 1; p++) {
                settings[p + 1] = lesserAfter(p, spent, least, sum);
                spent = together(spent, sizeOf(p), sum);
            }
            return least;
        }

        private void weighLast() {
            int last = places - 1;
            for (int a = -MOST_SETTING; a <= MOST_SETTING; a++) {
                for (int b = -MOST_SETTING; b <= MOST_SETTING; b++) {
                    rest[spot(last, a, b)] = Math.abs(bases[last] + main * b + side * a);
                }
            }
        }

        private void weigh(int place, boolean sum) {
            for (int a = -MOST_SETTING; a <= MOST_SETTING; a++) {
                int low = Math.max(-MOST_SETTING, a - next);
                int high = Math.min(MOST_SETTING, a + next);
                // Settings further from a than NEXT are never asked for, so their spots may stay as they are.
                for (int b = low; b <= high; b++) {
                    rest[spot(place, a, b)] = leastRest(place, a, b, sum);
                }
            }
        }

        /** What the PLACES from this one on come to at least, a being the SETTING ahead of it and b its own. */
        private int leastRest(int place, int a, int b, boolean sum) {
            int least = IMPOSSIBLE;
            int fixed = bases[place] + main * b + side * a;
            int row = spot(place + 1, b, 0);
            int high = highestAfter(a, b);
            for (int c = lowestAfter(a, b); c <= high; c++) {
                // No method is called here: best() goes through these lines some 200,000 times.
                int error = fixed + side * c;
                int own = error < 0 ? -error : error;
                int later = rest[row + c];
                int all = sum ? own + later : own > later ? own : later;
                if (all < least) {
                    least = all;
                }
            }
            return least;
        }

        private int settleFirstTwo(boolean sum) {
            int least = IMPOSSIBLE;
            for (int a = -MOST_SETTING; a <= MOST_SETTING; a++) {
                int high = Math.min(MOST_SETTING, a + next);
                for (int b = Math.max(-MOST_SETTING, a - next); b <= high; b++) {
                    int own = Math.abs(bases[0] + main * a + side * b);
                    int all = together(own, rest[spot(1, a, b)], sum);
                    if (all < least) {
                        least = all;
                        settings[0] = a;
                        settings[1] = b;
                    }
                }
            }
            return least;
        }

        /**
         * The least SETTING behind a PLACE with which all still comes to what is best. Measured by the whole, not by
         * what is still to come: of the greatest size a later PLACE may use up what an earlier one has spent already.
         */
        private int lesserAfter(int place, int spent, int least, boolean sum) {
            int a = settings[place - 1];
            int b = settings[place];
            int fixed = bases[place] + main * b + side * a;
            int row = spot(place + 1, b, 0);
            int high = highestAfter(a, b);
            for (int c = lowestAfter(a, b); c < high; c++) {
                int own = together(spent, Math.abs(fixed + side * c), sum);
                if (together(own, rest[row + c], sum) <= least) {
                    return c;
                }
            }
            // One of them must do, so the last one does if no other did.
            return high;
        }

        private int lowestAfter(int a, int b) {
            return Math.max(-MOST_SETTING, Math.max(b - next, 2 * b - a - bend));
        }

        private int highestAfter(int a, int b) {
            return Math.min(MOST_SETTING, Math.min(b + next, 2 * b - a + bend));
        }

        private static int spot(int place, int a, int b) {
            return (place * SETTINGS + a + MOST_SETTING) * SETTINGS + b + MOST_SETTING;
        }
    }

    /** Kinds of SETS and THE CUT, which is found anew from the last PLACE back whenever it is asked for. */
    static final class Sets {
        private final Lips lips;
        private final int[] widths = new int[MOST_KINDS];
        private final int[] prices = new int[MOST_KINDS];
        private final int[] bounds = new int[MOST_KINDS];
        private int count;
        // One more than there are PLACES: behind the last one nothing is to be had.
        private final int[] worth = new int[MOST_PLACES + 1];
        private final int[] begins = new int[MOST_PLACES];

        Sets(Lips lips) {
            this.lips = lips;
        }

        void forget() {
            count = 0;
        }

        int count() {
            return count;
        }

        int add(int width, int price, int bound) {
            widths[count] = width;
            prices[count] = price;
            bounds[count] = bound;
            count++;
            return count - 1;
        }

        boolean lies(int kind, int place) {
            int end = place + widths[kind];
            if (end > lips.places()) {
                return false;
            }
            for (int p = place; p < end; p++) {
                if (lips.sizeOf(p) > bounds[kind]) {
                    return false;
                }
            }
            return true;
        }

        int plan() {
            int places = lips.places();
            worth[places] = 0;
            for (int p = places - 1; p >= 0; p--) {
                weigh(p);
            }
            dropCovered(places);
            return worth[0];
        }

        /** Finds what is best to begin at a PLACE, if no SET from ahead of it lies over it. */
        private void weigh(int place) {
            int most = worth[place + 1];
            int chosen = NONE;
            for (int k = 0; k < count; k++) {
                if (lies(k, place)) {
                    int all = prices[k] + worth[place + widths[k]];
                    // Of equals a SET goes ahead of none, and a lesser kind ahead of a greater one.
                    if (all > most || (all == most && chosen == NONE)) {
                        most = all;
                        chosen = k;
                    }
                }
            }
            worth[place] = most;
            begins[place] = chosen;
        }

        private void dropCovered(int places) {
            int free = 0;
            for (int p = 0; p < places; p++) {
                if (p < free) {
                    begins[p] = NONE;
                } else if (begins[p] != NONE) {
                    free = p + widths[begins[p]];
                }
            }
        }

        int plannedAt(int place) {
            return begins[place];
        }
    }

    /**
     * GRADES and THE TOUR. For each GRADE and each set of GRADES still to come it is kept what these cost at least
     * from there on; that serves the TOURS from all GRADES until a cost or a GRADE changes.
     */
    static final class Grades {
        private static final int IMPOSSIBLE = 1000000;

        private int count;
        private final int[] costs = new int[MOST_GRADES * MOST_GRADES];
        private final int[] rest = new int[(1 << MOST_GRADES) * MOST_GRADES];
        private boolean weighed;

        Grades() {
            Arrays.fill(costs, COST_AT_FIRST);
        }

        int count() {
            return count;
        }

        int add() {
            weighed = false;
            count++;
            return count - 1;
        }

        int putCost(int from, int to, int c) {
            int before = costOf(from, to);
            costs[from * MOST_GRADES + to] = c;
            weighed = false;
            return before;
        }

        private int costOf(int from, int to) {
            return costs[from * MOST_GRADES + to];
        }

        int leastCosts(int from) {
            weighAll();
            return restOf(allBut(from), from);
        }

        int stepOf(int from, int i) {
            weighAll();
            int at = from;
            int left = allBut(from);
            for (int step = 0; step < i; step++) {
                at = lesserStep(left, at);
                left = without(left, at);
            }
            return at;
        }

        private int allBut(int from) {
            return without((1 << count) - 1, from);
        }

        private static int without(int left, int grade) {
            return left & ~(1 << grade);
        }

        private static boolean has(int left, int grade) {
            return (left >> grade & 1) == 1;
        }

        private int restOf(int left, int at) {
            return rest[left * MOST_GRADES + at];
        }

        private void weighAll() {
            if (weighed) {
                return;
            }
            for (int left = 0; left < 1 << count; left++) {
                for (int at = 0; at < count; at++) {
                    if (!has(left, at)) {
                        rest[left * MOST_GRADES + at] = left == 0 ? 0 : throughStep(left, at, lesserStep(left, at));
                    }
                }
            }
            weighed = true;
        }

        private int throughStep(int left, int at, int to) {
            return costOf(at, to) + restOf(without(left, to), to);
        }

        /** The GRADE to go to from one with some left: the cheapest way on, of several the lesser GRADE. */
        private int lesserStep(int left, int at) {
            int least = IMPOSSIBLE;
            int chosen = at;
            for (int to = 0; to < count; to++) {
                if (has(left, to)) {
                    int all = throughStep(left, at, to);
                    if (all < least) {
                        least = all;
                        chosen = to;
                    }
                }
            }
            return chosen;
        }
    }
}
