import java.util.Arrays;
import java.util.Random;

/** Promises 10 to 16: laws, spread, bases, settings, errors, and the best settings. */
final class LipsTest {
    private static final Due DUE = new Due("LipsTest");

    public static void main(String[] args) {
        lawsBindSettings();
        lawsRefuse();
        bendIsOfThree();
        spreadAndErrors();
        spreadRefuses();
        baseAndItsEdges();
        setAndItsEdges();
        aboutRefuses();
        unevenOfBothKinds();
        bestRefuses();
        bestPutsSettings();
        bestPrefersLesserSettings();
        bestUsesUpTheGreatest();
        bestOnTwoPlaces();
        bestByTightLaws();
        bestAtTheLimits();
        bestAgainstAllSettings();
        DUE.end();
    }

    private static void settingsAre(String when, BroadSheet x, int... want) {
        for (int p = 0; p < want.length; p++) {
            DUE.is(when + ", setting " + p, x.about(p, 0), want[p]);
        }
    }

    private static void lawsBindSettings() {
        BroadSheet x = new BroadSheet();
        DUE.is("laws(3, 4)", x.laws(3, 4), 1);
        DUE.is("told(5)", x.told(5), 3);
        DUE.is("told(6)", x.told(6), 4);
        DUE.is("set(7, 3)", x.set(7, 3), 1);
        DUE.is("set(7, 4)", x.set(7, 4), -5);
        DUE.is("set(6, 3)", x.set(6, 3), 1);
        DUE.is("laws(2, 40)", x.laws(2, 40), -5);
        DUE.is("laws(3, 2)", x.laws(3, 2), -5);
        DUE.is("laws(3, 3)", x.laws(3, 3), 1);
        DUE.is("laws stay when refused", x.laws(0, 0), -5);
        DUE.is("told(5)", x.told(5), 3);
        DUE.is("told(6)", x.told(6), 3);
        DUE.is("laws(20, 40)", x.laws(20, 40), 1);
    }

    private static void lawsRefuse() {
        BroadSheet x = new BroadSheet();
        x.set(0, 10);
        DUE.is("laws(-1, 0)", x.laws(-1, 0), -2);
        DUE.is("laws(21, 0)", x.laws(21, 0), -2);
        DUE.is("laws(0, -1)", x.laws(0, -1), -2);
        DUE.is("laws(0, 41)", x.laws(0, 41), -2);
        DUE.is("laws(0, 0)", x.laws(0, 0), -5);
        DUE.is("told(5)", x.told(5), 20);
        DUE.is("told(6)", x.told(6), 40);
    }

    private static void bendIsOfThree() {
        BroadSheet x = new BroadSheet();
        x.sheet(3);
        DUE.is("laws(20, 5)", x.laws(20, 5), 1);
        DUE.is("an end bends by its setting once", x.set(0, 5), 1);
        DUE.is("not further", x.set(0, 6), -5);
        DUE.is("the middle one counts twice: 2*5-5-0", x.set(1, 5), 1);
        DUE.is("2*6-5-0 is 7", x.set(1, 6), -5);
        DUE.is("2*0-5-0 is -5", x.set(1, 0), 1);
        DUE.is("2*-1-5-0 is -7", x.set(1, -1), -5);
        DUE.is("2*0-5+10 is 5", x.set(2, -10), 1);
        x.sheet(2);
        x.laws(20, 0);
        DUE.is("two places have no bend", x.set(0, 10), 1);
        DUE.is("and may lie far apart", x.set(1, -10), 1);
        DUE.is("laws(19, 0)", x.laws(19, 0), -5);
    }

    private static void spreadAndErrors() {
        BroadSheet x = Sheets.withBases(100, -50, 7);
        x.set(0, 3);
        x.set(1, -4);
        x.set(2, 5);
        DUE.is("error 0 at first", x.about(0, 2), 130);
        DUE.is("spread(20, -5)", x.spread(20, -5), 1);
        DUE.is("error 0", x.about(0, 2), 100 + 60 + 20);
        DUE.is("error 1", x.about(1, 2), -50 - 80 - 15 - 25);
        DUE.is("error 2", x.about(2, 2), 7 + 100 + 20);
        DUE.is("spread(1, 5)", x.spread(1, 5), 1);
        DUE.is("error 1", x.about(1, 2), -50 - 4 + 15 + 25);
        DUE.is("told(7)", x.told(7), 1);
        DUE.is("told(8)", x.told(8), 5);
    }

    private static void spreadRefuses() {
        BroadSheet x = new BroadSheet();
        DUE.is("spread(0, 0)", x.spread(0, 0), -2);
        DUE.is("spread(21, 0)", x.spread(21, 0), -2);
        DUE.is("spread(1, -6)", x.spread(1, -6), -2);
        DUE.is("spread(1, 6)", x.spread(1, 6), -2);
        DUE.is("told(7)", x.told(7), 10);
        DUE.is("told(8)", x.told(8), 0);
    }

    private static void baseAndItsEdges() {
        BroadSheet x = new BroadSheet();
        DUE.is("base(0, 2000)", x.base(0, 2000), 1);
        DUE.is("base(7, -2000)", x.base(7, -2000), 1);
        DUE.is("base(0, 2001)", x.base(0, 2001), -2);
        DUE.is("base(0, -2001)", x.base(0, -2001), -2);
        DUE.is("base(8, 2001)", x.base(8, 2001), -1);
        DUE.is("base(-1, 0)", x.base(-1, 0), -1);
        DUE.is("about(0, 1)", x.about(0, 1), 2000);
        DUE.is("about(7, 1)", x.about(7, 1), -2000);
    }

    private static void setAndItsEdges() {
        BroadSheet x = new BroadSheet();
        DUE.is("set(0, 10)", x.set(0, 10), 1);
        DUE.is("set(1, -10)", x.set(1, -10), 1);
        DUE.is("set(0, 11)", x.set(0, 11), -2);
        DUE.is("set(0, -11)", x.set(0, -11), -2);
        DUE.is("set(8, 11)", x.set(8, 11), -1);
        DUE.is("set(-1, 0)", x.set(-1, 0), -1);
        DUE.is("laws(20, 30)", x.laws(20, 30), 1);
        DUE.is("set(2, 1)", x.set(2, 1), -5);
        DUE.is("outside goes ahead of no", x.set(2, 11), -2);
        settingsAre("after refusals", x, 10, -10, 0, 0, 0, 0, 0, 0);
        DUE.is("set(2, 0)", x.set(2, 0), 1);
    }

    private static void aboutRefuses() {
        BroadSheet x = new BroadSheet();
        DUE.is("about(8, 0)", x.about(8, 0), -1000001);
        DUE.is("about(-1, 3)", x.about(-1, 3), -1000001);
        DUE.is("about(0, 3)", x.about(0, 3), -1000002);
        DUE.is("about(7, -1)", x.about(7, -1), -1000002);
    }

    private static void unevenOfBothKinds() {
        BroadSheet x = Sheets.withBases(10, -30, 20);
        DUE.is("uneven(0)", x.uneven(0), 60);
        DUE.is("uneven(1)", x.uneven(1), 30);
        x.set(1, 3);
        DUE.is("uneven(0)", x.uneven(0), 30);
        DUE.is("uneven(1)", x.uneven(1), 20);
        DUE.is("uneven(2)", x.uneven(2), -2);
        DUE.is("uneven(-1)", x.uneven(-1), -2);
    }

    private static void bestRefuses() {
        BroadSheet x = Sheets.withBases(10, 20);
        x.set(0, 5);
        DUE.is("best(2)", x.best(2), -2);
        DUE.is("best(-1)", x.best(-1), -2);
        settingsAre("after refusals", x, 5, 0);
    }

    private static void bestPutsSettings() {
        BroadSheet x = Sheets.withBases(30, -70, 100, 0);
        x.set(3, 9);
        DUE.is("best(0)", x.best(0), 0);
        settingsAre("best(0)", x, -3, 7, -10, 0);
        DUE.is("uneven(0)", x.uneven(0), 0);
        x.base(2, 150);
        DUE.is("best(1)", x.best(1), 50);
        DUE.is("uneven(1)", x.uneven(1), 50);
        settingsAre("best(1)", x, -8, 2, -10, -5);
    }

    private static void bestPrefersLesserSettings() {
        BroadSheet x = Sheets.withBases(5, 0, -15);
        DUE.is("best(0)", x.best(0), 10);
        settingsAre("best(0)", x, -1, 0, 1);
        x.laws(1, 40);
        DUE.is("best(0) by laws", x.best(0), 10);
        settingsAre("best(0) by laws", x, -1, 0, 1);
        x = Sheets.withBases(0, 10);
        x.laws(0, 40);
        DUE.is("either place may give", x.best(0), 10);
        settingsAre("the lesser", x, -1, -1);
    }

    private static void bestUsesUpTheGreatest() {
        BroadSheet x = Sheets.withBases(0, 0, 300);
        DUE.is("best(1)", x.best(1), 200);
        settingsAre("best(1)", x, -10, -10, -10);
        x = Sheets.withBases(300, 0, 0);
        DUE.is("best(1)", x.best(1), 200);
        settingsAre("best(1)", x, -10, -10, -10);
    }

    private static void bestOnTwoPlaces() {
        BroadSheet x = Sheets.withBases(40, 95);
        x.spread(10, 5);
        DUE.is("best(0)", x.best(0), 0);
        settingsAre("best(0)", x, 1, -10);
        x.base(1, 100);
        DUE.is("best(0), not wholly even", x.best(0), 5);
        settingsAre("best(0), not wholly even", x, 1, -10);
    }

    private static void bestByTightLaws() {
        BroadSheet x = Sheets.withBases(100, -100, 100, -100);
        x.laws(0, 0);
        DUE.is("best(0), all alike", x.best(0), 400);
        settingsAre("best(0)", x, -10, -10, -10, -10);
        DUE.is("best(1), all alike", x.best(1), 100);
        settingsAre("best(1)", x, 0, 0, 0, 0);
        x.laws(20, 0);
        x.base(0, 60);
        x.base(1, 20);
        x.base(2, -20);
        x.base(3, -60);
        DUE.is("best(0), a straight line", x.best(0), 0);
        settingsAre("best(0)", x, -6, -2, 2, 6);
    }

    private static void bestAtTheLimits() {
        BroadSheet x = new BroadSheet();
        x.sheet(24);
        x.spread(20, 5);
        for (int p = 0; p < 24; p++) {
            x.base(p, 2000);
        }
        DUE.is("best(0)", x.best(0), 24 * 1700 + 2 * 50);
        settingsAre("best(0)", x, -10, -10, -10);
        DUE.is("best(1)", x.best(1), 1750);
        for (int p = 0; p < 24; p++) {
            x.set(p, 10);
        }
        DUE.is("the most uneven", x.uneven(0), 24 * 2300 - 2 * 50);
        DUE.is("its greatest", x.uneven(1), 2300);
    }

    /** Every setting of a few PLACES, the first of the least. */
    private static void bestAgainstAllSettings() {
        Random random = new Random(7);
        for (int n = 0; n < 60; n++) {
            int places = 2 + n % 3;
            int[] bases = new int[places];
            for (int p = 0; p < places; p++) {
                bases[p] = random.nextInt(n % 2 == 0 ? 101 : 601) - (n % 2 == 0 ? 50 : 300);
            }
            int main = 1 + random.nextInt(20);
            int side = random.nextInt(11) - 5;
            int next = random.nextInt(21);
            int bend = random.nextInt(n % 5 == 0 ? 41 : 12);
            BroadSheet x = Sheets.withBases(bases);
            x.spread(main, side);
            x.laws(next, bend);
            for (int kind = 0; kind < 2; kind++) {
                int[] want = allSettings(bases, new int[] {main, side, next, bend, kind});
                DUE.is("best(" + kind + ") of sheet " + n, x.best(kind), want[places]);
                for (int p = 0; p < places; p++) {
                    DUE.is("sheet " + n + ", kind " + kind + ", setting " + p, x.about(p, 0), want[p]);
                }
            }
        }
    }

    private static int[] allSettings(int[] bases, int[] by) {
        int places = bases.length;
        int[] x = new int[places];
        Arrays.fill(x, -10);
        int[] best = new int[places + 1];
        best[places] = Integer.MAX_VALUE;
        while (true) {
            int uneven = unevenOf(x, bases, by);
            if (uneven < best[places]) {
                System.arraycopy(x, 0, best, 0, places);
                best[places] = uneven;
            }
            int p = places - 1;
            while (p >= 0 && x[p] == 10) {
                x[p] = -10;
                p--;
            }
            if (p < 0) {
                return best;
            }
            x[p]++;
        }
    }

    private static int unevenOf(int[] x, int[] bases, int[] by) {
        int all = 0;
        for (int p = 0; p < x.length; p++) {
            int left = p > 0 ? x[p - 1] : 0;
            int right = p + 1 < x.length ? x[p + 1] : 0;
            if (p > 0 && Math.abs(x[p] - left) > by[2]) {
                return Integer.MAX_VALUE;
            }
            if (p > 0 && p + 1 < x.length && Math.abs(2 * x[p] - left - right) > by[3]) {
                return Integer.MAX_VALUE;
            }
            int size = Math.abs(bases[p] + by[0] * x[p] + by[1] * (left + right));
            all = by[4] == 0 ? all + size : Math.max(all, size);
        }
        return all;
    }
}
