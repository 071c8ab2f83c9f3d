import java.util.Arrays;
import java.util.Random;

/** Promises 17 to 20: kinds of sets, where they can lie, and the cut. */
final class SetsTest {
    private static final Due DUE = new Due("SetsTest");

    public static void main(String[] args) {
        kindsAreNumbered();
        kindRefuses();
        canLieByWidthAndBound();
        canLieRefuses();
        cutOfNothing();
        cutForTheGreatestPrice();
        cutPrefersASetToNone();
        cutPrefersTheLesserKind();
        cutFollowsErrors();
        cutOfTheWidestSheet();
        cutForgetsAWiderSheet();
        cutAtRefuses();
        cutAgainstAllCuts();
        DUE.end();
    }

    private static void cutIs(String when, BroadSheet x, int price, int... want) {
        for (int p = 0; p < want.length; p++) {
            DUE.is(when + ", cutAt(" + p + ")", x.cutAt(p), want[p]);
        }
        DUE.is(when + ", cut()", x.cut(), price);
    }

    private static void kindsAreNumbered() {
        BroadSheet x = new BroadSheet();
        DUE.is("kind(1, 1, 0)", x.kind(1, 1, 0), 0);
        DUE.is("kind(24, 1000, 2000)", x.kind(24, 1000, 2000), 1);
        DUE.is("the same again", x.kind(24, 1000, 2000), 2);
        DUE.is("told(3)", x.told(3), 3);
        DUE.is("kind(8, 5, 5)", x.kind(8, 5, 5), 3);
        DUE.is("full", x.kind(8, 5, 5), -4);
        DUE.is("outside goes ahead of full", x.kind(0, 5, 5), -2);
        DUE.is("told(3)", x.told(3), 4);
        x.sheet(4);
        DUE.is("from 0 on again", x.kind(1, 1, 1), 0);
    }

    private static void kindRefuses() {
        BroadSheet x = new BroadSheet();
        DUE.is("kind(0, 1, 1)", x.kind(0, 1, 1), -2);
        DUE.is("kind(25, 1, 1)", x.kind(25, 1, 1), -2);
        DUE.is("kind(1, 0, 1)", x.kind(1, 0, 1), -2);
        DUE.is("kind(1, 1001, 1)", x.kind(1, 1001, 1), -2);
        DUE.is("kind(1, 1, -1)", x.kind(1, 1, -1), -2);
        DUE.is("kind(1, 1, 2001)", x.kind(1, 1, 2001), -2);
        DUE.is("told(3)", x.told(3), 0);
    }

    private static void canLieByWidthAndBound() {
        BroadSheet x = Sheets.withBases(10, -20, 20, 21);
        x.kind(2, 1, 20);
        x.kind(4, 1, 21);
        x.kind(5, 1, 2000);
        DUE.is("canLie(0, 0)", x.canLie(0, 0), 1);
        DUE.is("canLie(0, 1), at its bound", x.canLie(0, 1), 1);
        DUE.is("canLie(0, 2), above its bound", x.canLie(0, 2), 0);
        DUE.is("canLie(1, 0), the whole sheet", x.canLie(1, 0), 1);
        DUE.is("canLie(1, 1), beyond the sheet", x.canLie(1, 1), 0);
        DUE.is("canLie(2, 0), too wide", x.canLie(2, 0), 0);
        x.set(1, 4);
        DUE.is("errors count, not bases", x.canLie(0, 0), 1);
        x.set(1, 5);
        DUE.is("a setting too far", x.canLie(0, 0), 0);
    }

    private static void canLieRefuses() {
        BroadSheet x = new BroadSheet();
        DUE.is("canLie(0, 0) without kinds", x.canLie(0, 0), -1);
        x.kind(1, 1, 1);
        DUE.is("canLie(1, 0)", x.canLie(1, 0), -1);
        DUE.is("canLie(-1, 0)", x.canLie(-1, 0), -1);
        DUE.is("canLie(0, 8)", x.canLie(0, 8), -1);
        DUE.is("canLie(0, -1)", x.canLie(0, -1), -1);
        DUE.is("canLie(0, 7)", x.canLie(0, 7), 1);
    }

    private static void cutOfNothing() {
        BroadSheet x = Sheets.withBases(9, 9);
        cutIs("no kinds", x, 0, -6, -6);
        x.kind(1, 1, 8);
        cutIs("none can lie", x, 0, -6, -6);
    }

    private static void cutForTheGreatestPrice() {
        BroadSheet x = Sheets.withBases(0, 0, 0, 0, 0);
        x.kind(2, 7, 0);
        x.kind(3, 11, 0);
        cutIs("two and three", x, 18, 0, -6, 1, -6, -6);
        x.kind(5, 19, 0);
        cutIs("one over all", x, 19, 2, -6, -6, -6, -6);
        x.kind(1, 1000, 0);
        cutIs("five small ones", x, 5000, 3, 3, 3, 3, 3);
    }

    private static void cutPrefersASetToNone() {
        BroadSheet x = Sheets.withBases(0, 0, 0);
        x.kind(2, 5, 0);
        cutIs("early rather than late", x, 5, 0, -6, -6);
        x.base(0, 1);
        cutIs("where it can lie", x, 5, -6, 0, -6);
    }

    private static void cutPrefersTheLesserKind() {
        BroadSheet x = Sheets.withBases(0, 0, 0);
        x.kind(2, 2, 0);
        x.kind(1, 1, 0);
        x.kind(3, 3, 0);
        cutIs("two, then one", x, 3, 0, -6, 1);
        x.sheet(3);
        x.kind(3, 3, 0);
        x.kind(1, 1, 0);
        x.kind(2, 2, 0);
        cutIs("one over all", x, 3, 0, -6, -6);
        x.sheet(3);
        x.kind(1, 1, 0);
        x.kind(2, 2, 0);
        cutIs("three small ones", x, 3, 0, 0, 0);
    }

    private static void cutFollowsErrors() {
        BroadSheet x = Sheets.withBases(0, 0, 50, 0);
        x.kind(1, 10, 5);
        x.kind(2, 30, 5);
        cutIs("around a fault", x, 40, 1, -6, -6, 0);
        x.set(2, -5);
        cutIs("the fault mended", x, 60, 1, -6, 1, -6);
        x.spread(10, 2);
        cutIs("the setting shows at its sides", x, 20, 0, -6, 0, -6);
    }

    private static void cutOfTheWidestSheet() {
        BroadSheet x = new BroadSheet();
        x.sheet(24);
        x.kind(5, 10, 0);
        x.kind(2, 4, 0);
        DUE.is("cut()", x.cut(), 48);
        for (int p = 0; p < 24; p++) {
            int want = p < 20 ? (p % 5 == 0 ? 0 : -6) : (p % 2 == 0 ? 1 : -6);
            DUE.is("cutAt(" + p + ") of 24", x.cutAt(p), want);
        }
        x.kind(24, 49, 0);
        DUE.is("one over all", x.cut(), 49);
        DUE.is("from place 0 on", x.cutAt(0), 2);
        DUE.is("nothing behind", x.cutAt(23), -6);
    }

    private static void cutForgetsAWiderSheet() {
        BroadSheet x = Sheets.withBases(0, 0, 0, 0, 0);
        x.kind(1, 7, 0);
        DUE.is("cut() of 5", x.cut(), 35);
        x.sheet(3);
        cutIs("a new sheet without kinds", x, 0, -6, -6, -6);
        x.kind(1, 7, 0);
        cutIs("a new sheet with one", x, 21, 0, 0, 0);
    }

    private static void cutAtRefuses() {
        BroadSheet x = new BroadSheet();
        x.kind(1, 1, 1);
        DUE.is("cutAt(8)", x.cutAt(8), -1);
        DUE.is("cutAt(-1)", x.cutAt(-1), -1);
        DUE.is("cutAt(7)", x.cutAt(7), 0);
        x.sheet(4);
        DUE.is("cutAt(4)", x.cutAt(4), -1);
        DUE.is("cutAt(3)", x.cutAt(3), -6);
    }

    /** Every CUT of a few PLACES, those that are to be taken first of several coming first. */
    private static void cutAgainstAllCuts() {
        Random random = new Random(11);
        for (int n = 0; n < 200; n++) {
            int places = 2 + random.nextInt(7);
            int[] bases = new int[places];
            for (int p = 0; p < places; p++) {
                bases[p] = random.nextInt(4) - random.nextInt(4);
            }
            BroadSheet x = Sheets.withBases(bases);
            int kinds = 1 + random.nextInt(4);
            int[][] kind = new int[kinds][];
            for (int k = 0; k < kinds; k++) {
                kind[k] = new int[] {1 + random.nextInt(4), 1 + random.nextInt(4), random.nextInt(4)};
                x.kind(kind[k][0], kind[k][1], kind[k][2]);
            }
            AllCuts all = new AllCuts(bases, kind);
            all.from(0, 0);
            cutIs("sheet " + n, x, all.most, all.best);
        }
    }

    private static final class AllCuts {
        private final int[] bases;
        private final int[][] kind;
        private final int[] now;
        private int[] best;
        private int most = -1;

        AllCuts(int[] bases, int[][] kind) {
            this.bases = bases;
            this.kind = kind;
            now = new int[bases.length];
            Arrays.fill(now, -6);
        }

        void from(int p, int price) {
            if (p == bases.length) {
                if (price > most) {
                    most = price;
                    best = now.clone();
                }
                return;
            }
            for (int k = 0; k < kind.length; k++) {
                if (lies(k, p)) {
                    now[p] = k;
                    from(p + kind[k][0], price + kind[k][1]);
                    now[p] = -6;
                }
            }
            from(p + 1, price);
        }

        private boolean lies(int k, int p) {
            if (p + kind[k][0] > bases.length) {
                return false;
            }
            for (int q = p; q < p + kind[k][0]; q++) {
                if (Math.abs(bases[q]) > kind[k][2]) {
                    return false;
                }
            }
            return true;
        }
    }
}
