import java.util.Random;

/** Runs of calls with fixed seeds, wrong ones among them, answered by BroadSheet and by PlainSheet alike. */
final class RandomRunsTest {
    private static final int CALLS = 512;
    private static final String[] NAMES = {
        "sheet", "read", "reading", "across", "along", "groups", "take", "clear", "laws", "spread", "base", "set",
        "about", "uneven", "best", "kind", "canLie", "cut", "cutAt", "grade", "cost", "tour", "tourAt", "told"};
    /** How often each call is made, for four sorts of runs: all alike, the eye, lips and sets, grades. */
    private static final int[][] OFTEN = {
        {1, 12, 4, 6, 6, 3, 3, 1, 3, 3, 8, 8, 10, 4, 2, 4, 5, 3, 6, 2, 8, 2, 4, 4},
        {1, 60, 10, 20, 20, 8, 8, 1, 0, 0, 1, 1, 4, 1, 0, 0, 0, 0, 0, 0, 0, 0, 0, 6},
        {1, 2, 0, 1, 0, 0, 2, 0, 6, 5, 40, 20, 25, 6, 7, 6, 12, 6, 25, 0, 0, 0, 0, 4},
        {0, 0, 0, 0, 0, 0, 0, 0, 0, 0, 0, 0, 0, 0, 0, 0, 0, 0, 0, 3, 90, 3, 8, 2}};

    private final Due due = new Due("RandomRunsTest");
    private final Random random;
    private final BroadSheet mine = new BroadSheet();
    private final PlainSheet plain = new PlainSheet();
    private final StringBuilder told = new StringBuilder();
    private final int seed;
    private final int sort;

    private RandomRunsTest(int seed) {
        this.seed = seed;
        random = new Random(seed);
        sort = seed % OFTEN.length;
    }

    public static void main(String[] args) {
        Due all = new Due("RandomRunsTest");
        for (int seed = 0; seed < 240; seed++) {
            RandomRunsTest run = new RandomRunsTest(seed);
            run.go();
            all.holds("run with seed " + seed + " is not as due", !run.due.anyWrong());
        }
        all.end();
    }

    private void go() {
        if (sort != 0) {
            call(0, random.nextBoolean() ? 2 + random.nextInt(4) : 2 + random.nextInt(23), 0, 0);
        }
        for (int n = 1; n < CALLS && !due.anyWrong(); n++) {
            step(pick());
        }
    }

    private int pick() {
        int sum = 0;
        for (int o : OFTEN[sort]) sum += o;
        int at = random.nextInt(sum);
        int op = 0;
        while (at >= OFTEN[sort][op]) at -= OFTEN[sort][op++];
        return op;
    }

    private void step(int op) {
        int places = plain.told(0);
        int place = some(0, places - 1);
        int grade = some(0, plain.told(4) - 1);
        switch (op) {
            case 0 -> call(op, some(2, 24), 0, 0);
            case 1 -> call(op, time(), place, value());
            case 2 -> call(op, some(0, plain.told(1) - 1), some(0, 3), 0);
            case 4 -> call(op, time(), time(), 0);
            case 8 -> call(op, some(0, 20), some(0, 40), 0);
            case 9 -> call(op, some(1, 20), some(-5, 5), 0);
            case 10 -> call(op, place, random.nextInt(3) > 0 ? some(-200, 200) : some(-2000, 2000), 0);
            case 11 -> call(op, place, some(-10, 10), 0);
            case 12 -> call(op, place, some(0, 2), 0);
            case 13, 14 -> call(op, some(0, 1), 0, 0);
            case 15 -> call(op, random.nextInt(4) > 0 ? some(1, 5) : some(1, 24), random.nextBoolean() ? some(1, 6) : some(1, 1000),
                random.nextBoolean() ? some(100, 300) : some(0, 2000));
            case 16 -> call(op, some(0, plain.told(3) - 1), place, 0);
            case 20 -> call(op, grade, some(0, plain.told(4) - 1), random.nextBoolean() ? some(0, 9) : some(0, 1000));
            case 21 -> call(op, grade, 0, 0);
            case 22 -> call(op, grade, some(0, plain.told(4) - 1), 0);
            case 23 -> call(op, some(0, 8), 0, 0);
            default -> call(op, place, 0, 0);
        }
    }

    /** A number within bounds mostly, seldom just beyond them or far away. */
    private int some(int least, int most) {
        int how = random.nextInt(60);
        if (how == 0) return least - 1;
        if (how == 1) return most + 1;
        if (how == 2) return random.nextBoolean() ? Integer.MIN_VALUE : Integer.MAX_VALUE;
        if (how == 3) return random.nextInt();
        if (how < 8) return random.nextBoolean() ? least : most;
        return least + (most < least ? 0 : random.nextInt(most - least + 1));
    }

    private int time() {
        return random.nextBoolean() ? some(0, 39) : some(0, 5);
    }

    private int value() {
        int how = random.nextInt(10);
        return how < 5 ? some(-1, 1) : how < 7 ? some(-1000, 1000) : how < 9 ? some(600, 1000) : 0;
    }

    private void call(int op, int a, int b, int c) {
        String name = NAMES[op] + "(" + a + ", " + b + ", " + c + ")";
        int got = answer(op, a, b, c);
        int want = plainAnswer(op, a, b, c);
        told.append(name).append(" -> ").append(want).append('\n');
        due.is("seed " + seed + ": " + name, got, want);
        if (got != want) {
            System.out.println("the calls were:\n" + told);
        }
    }

    private int answer(int op, int a, int b, int c) {
        return switch (op) {
            case 0 -> mine.sheet(a);
            case 1 -> mine.read(a, b, c);
            case 2 -> mine.reading(a, b);
            case 3 -> mine.across(a);
            case 4 -> mine.along(a, b);
            case 5 -> mine.groups();
            case 6 -> mine.take();
            case 7 -> mine.clear();
            case 8 -> mine.laws(a, b);
            case 9 -> mine.spread(a, b);
            case 10 -> mine.base(a, b);
            case 11 -> mine.set(a, b);
            case 12 -> mine.about(a, b);
            case 13 -> mine.uneven(a);
            case 14 -> mine.best(a);
            case 15 -> mine.kind(a, b, c);
            case 16 -> mine.canLie(a, b);
            case 17 -> mine.cut();
            case 18 -> mine.cutAt(a);
            case 19 -> mine.grade();
            case 20 -> mine.cost(a, b, c);
            case 21 -> mine.tour(a);
            case 22 -> mine.tourAt(a, b);
            default -> mine.told(a);
        };
    }

    private int plainAnswer(int op, int a, int b, int c) {
        return switch (op) {
            case 0 -> plain.sheet(a);
            case 1 -> plain.read(a, b, c);
            case 2 -> plain.reading(a, b);
            case 3 -> plain.across(a);
            case 4 -> plain.along(a, b);
            case 5 -> plain.groups();
            case 6 -> plain.take();
            case 7 -> plain.clear();
            case 8 -> plain.laws(a, b);
            case 9 -> plain.spread(a, b);
            case 10 -> plain.base(a, b);
            case 11 -> plain.set(a, b);
            case 12 -> plain.about(a, b);
            case 13 -> plain.uneven(a);
            case 14 -> plain.best(a);
            case 15 -> plain.kind(a, b, c);
            case 16 -> plain.canLie(a, b);
            case 17 -> plain.cut();
            case 18 -> plain.cutAt(a);
            case 19 -> plain.grade();
            case 20 -> plain.cost(a, b, c);
            case 21 -> plain.tour(a);
            case 22 -> plain.tourAt(a, b);
            default -> plain.told(a);
        };
    }
}
