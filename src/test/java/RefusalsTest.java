import java.util.List;
import java.util.function.Supplier;

/**
 * Terms: what is told of a number that is refused, which refusal comes first where two fit, and that a refused call
 * changes nothing.
 */
final class RefusalsTest {
    private static final int MIN = Integer.MIN_VALUE;
    private static final int MAX = Integer.MAX_VALUE;
    private static final Due DUE = new Due("RefusalsTest");

    interface Call {
        int on(BroadSheet x);
    }

    private final String sheetName;
    private final Supplier<BroadSheet> made;

    public static void main(String[] args) {
        lostAndTheRefusal();
        unknownGoesAheadOfOutside();
        unknownGoesAheadOfFull();
        unknownGoesAheadOfNo();
        outsideGoesAheadOfFull();
        outsideGoesAheadOfNo();
        allThreeAtOnce();
        RefusalsTest busy = new RefusalsTest("a busy sheet", Sheets::busy);
        busy.refusedCallsOfTheEyeChangeNothing();
        busy.refusedCallsOfTheLipsChangeNothing();
        busy.refusedCallsOfSetsChangeNothing();
        busy.refusedCallsOfGradesChangeNothing();
        busy.questionsChangeNothing();
        new RefusalsTest("a full sheet", Sheets::full).fullChangesNothing();
        new RefusalsTest("2001 across", () -> Sheets.withAcross(0, 2000, 1, 2001)).takeChangesNothing();
        new RefusalsTest("-2001 across", () -> Sheets.withAcross(0, -2000, -1, -2001)).takeChangesNothing();
        new RefusalsTest("a new sheet", BroadSheet::new).refusedOnANewSheetChangesNothing();
        DUE.end();
    }

    private RefusalsTest(String sheetName, Supplier<BroadSheet> made) {
        this.sheetName = sheetName;
        this.made = made;
    }

    private static void lostAndTheRefusal() {
        DUE.by("Terms: LOST = -1000000: What is told of a number that is refused: LOST and the refusal");
        BroadSheet x = new BroadSheet();
        DUE.is("reading(0, 0)", x.reading(0, 0), BroadSheet.LOST + BroadSheet.UNKNOWN);
        DUE.is("across(8)", x.across(8), BroadSheet.LOST + BroadSheet.UNKNOWN);
        DUE.is("across(1)", x.across(1), BroadSheet.LOST + BroadSheet.NO);
        DUE.is("along(40, 0)", x.along(40, 0), BroadSheet.LOST + BroadSheet.UNKNOWN);
        DUE.is("along(1, 0)", x.along(1, 0), BroadSheet.LOST + BroadSheet.NO);
        DUE.is("about(8, 0)", x.about(8, 0), BroadSheet.LOST + BroadSheet.UNKNOWN);
        DUE.is("about(0, 3)", x.about(0, 3), BroadSheet.LOST + BroadSheet.OUTSIDE);
        x.read(0, 0, -2);
        DUE.is("reading(0, 4)", x.reading(0, 4), BroadSheet.LOST + BroadSheet.OUTSIDE);
        DUE.is("reading(0, 2), which is no refusal", x.reading(0, 2), -2);
    }

    private static void unknownGoesAheadOfOutside() {
        DUE.by("Terms: the first of these that fits: UNKNOWN, OUTSIDE");
        int[][] two = {{-1, -1}, {MIN, MIN}, {MAX, MAX}, {MIN, MAX}, {MAX, MIN}};
        for (int[] n : two) {
            BroadSheet x = Sheets.busy();
            DUE.is("read, TIME", x.read(n[1], n[0], 0), -1);
            DUE.is("read, value", x.read(0, n[0], n[1] < 0 ? -1001 : 1001), -1);
            DUE.is("reading", x.reading(n[0], n[1]), -1000001);
            DUE.is("base", x.base(n[0], n[1] < 0 ? -2001 : 2001), -1);
            DUE.is("base, far out", x.base(n[0], n[1] == -1 ? MIN : n[1]), -1);
            DUE.is("set", x.set(n[0], n[1] < 0 ? -11 : 11), -1);
            DUE.is("set, far out", x.set(n[0], n[1] == -1 ? MIN : n[1]), -1);
            DUE.is("about", x.about(n[0], n[1]), -1000001);
            DUE.is("cost, from", x.cost(n[0], 0, n[1]), -1);
            DUE.is("cost, to", x.cost(0, n[0], n[1]), -1);
        }
        BroadSheet x = Sheets.busy();
        DUE.is("read(40, 5, 0)", x.read(40, 5, 0), -1);
        DUE.is("read(0, 5, 1001)", x.read(0, 5, 1001), -1);
        DUE.is("reading(6, 4)", x.reading(6, 4), -1000001);
        DUE.is("base(5, 2001)", x.base(5, 2001), -1);
        DUE.is("set(5, 11)", x.set(5, 11), -1);
        DUE.is("about(5, 3)", x.about(5, 3), -1000001);
        DUE.is("cost(3, 0, 1001)", x.cost(3, 0, 1001), -1);
        DUE.is("cost(0, 3, 1001)", x.cost(0, 3, 1001), -1);
        DUE.is("reading(0, 4), there being none", new BroadSheet().reading(0, 4), -1000001);
    }

    private static void unknownGoesAheadOfFull() {
        DUE.by("Terms: the first of these that fits: UNKNOWN, FULL");
        BroadSheet x = Sheets.full();
        for (int place : new int[] {-1, 24, MIN, MAX}) {
            DUE.is("read(0, " + place + ", 0)", x.read(0, place, 0), -1);
        }
    }

    private static void unknownGoesAheadOfNo() {
        DUE.by("Terms: the first of these that fits: UNKNOWN, NO");
        BroadSheet x = Sheets.busy();
        DUE.is("set(5, 10), which would not be by LAWS", x.set(5, 10), -1);
        DUE.is("set(-1, 10)", x.set(-1, 10), -1);
        DUE.is("cost(3, 3, 5), which are one", x.cost(3, 3, 5), -1);
        DUE.is("cost(-1, -1, 5)", x.cost(-1, -1, 5), -1);
        DUE.is("across(5), which hangs on nothing", x.across(5), -1000001);
        DUE.is("across(-1)", x.across(-1), -1000001);
        DUE.is("along(40, 0), which do not hang together", x.along(40, 0), -1000001);
        DUE.is("along(0, -1)", x.along(0, -1), -1000001);
    }

    private static void outsideGoesAheadOfFull() {
        DUE.by("Terms: the first of these that fits: OUTSIDE, FULL");
        for (int n : new int[] {-1, 40, MIN, MAX}) {
            DUE.is("read(" + n + ", 0, 0)", Sheets.full().read(n, 0, 0), -2);
        }
        for (int n : new int[] {-1001, 1001, MIN, MAX}) {
            DUE.is("read(0, 0, " + n + ")", Sheets.full().read(0, 0, n), -2);
        }
        for (int n : new int[] {0, 25, MIN, MAX}) {
            DUE.is("kind(" + n + ", 1, 1)", Sheets.full().kind(n, 1, 1), -2);
        }
        for (int n : new int[] {0, 1001, MIN, MAX}) {
            DUE.is("kind(1, " + n + ", 1)", Sheets.full().kind(1, n, 1), -2);
        }
        for (int n : new int[] {-1, 2001, MIN, MAX}) {
            DUE.is("kind(1, 1, " + n + ")", Sheets.full().kind(1, 1, n), -2);
        }
    }

    private static void outsideGoesAheadOfNo() {
        DUE.by("Terms: the first of these that fits: OUTSIDE, NO");
        BroadSheet x = Sheets.busy();
        for (int n : new int[] {-1, MIN}) {
            DUE.is("laws(" + n + ", 0)", x.laws(n, 0), -2);
            DUE.is("laws(0, " + n + ")", x.laws(0, n), -2);
        }
        for (int n : new int[] {41, MAX}) {
            DUE.is("laws(" + n + ", 0), bent too far", x.laws(n, 0), -2);
            DUE.is("laws(0, " + n + "), too far apart", x.laws(0, n), -2);
        }
        DUE.is("laws(21, 0)", x.laws(21, 0), -2);
        for (int n : new int[] {-11, 11, MIN, MAX}) {
            DUE.is("set(0, " + n + ")", x.set(0, n), -2);
            DUE.is("set(4, " + n + ")", x.set(4, n), -2);
        }
        for (int n : new int[] {-1, 1001, MIN, MAX}) {
            DUE.is("cost(0, 0, " + n + ")", x.cost(0, 0, n), -2);
            DUE.is("cost(2, 2, " + n + ")", x.cost(2, 2, n), -2);
        }
    }

    private static void allThreeAtOnce() {
        DUE.by("Terms: the first of these that fits, three of them fitting");
        BroadSheet x = Sheets.full();
        DUE.is("read: UNKNOWN, OUTSIDE, FULL", x.read(-1, 24, 1001), -1);
        DUE.is("set: UNKNOWN, OUTSIDE, NO", x.set(24, 11), -1);
        DUE.is("cost: UNKNOWN, OUTSIDE, NO", x.cost(9, 9, 1001), -1);
    }

    /** The call is answered as due, and then all is as it is on a sheet on which it was never made. */
    private void unchanged(String name, int due, Call call) {
        for (int part = 0; part < Tale.PARTS; part++) {
            BroadSheet with = made.get();
            DUE.is(name + " on " + sheetName, call.on(with), due);
            alike(name, with, part);
        }
    }

    private void alike(String name, BroadSheet with, int part) {
        List<String> got = Tale.of(with, part);
        List<String> want = Tale.of(made.get(), part);
        DUE.holds("behind " + name + " on " + sheetName + " it is told at other length", got.size() == want.size());
        for (int i = 0; i < Math.min(got.size(), want.size()); i++) {
            DUE.holds("behind " + name + " on " + sheetName + ": " + got.get(i) + ", not as ahead: " + want.get(i),
                got.get(i).equals(want.get(i)));
        }
    }

    private void refusedCallsOfTheEyeChangeNothing() {
        DUE.by("Terms: They change nothing, promises 2 to 9");
        for (int places : new int[] {1, 0, 25, MIN, MAX}) {
            unchanged("sheet(" + places + ")", -2, x -> x.sheet(places));
        }
        for (int place : new int[] {-1, 5, 23, MIN, MAX}) {
            unchanged("read(9, " + place + ", 0)", -1, x -> x.read(9, place, 0));
            unchanged("across(" + place + ")", -1000001, x -> x.across(place));
        }
        for (int time : new int[] {-1, 40, MIN, MAX}) {
            unchanged("read(" + time + ", 3, 0)", -2, x -> x.read(time, 3, 0));
            unchanged("along(" + time + ", 3)", -1000001, x -> x.along(time, 3));
            unchanged("along(3, " + time + ")", -1000001, x -> x.along(3, time));
        }
        for (int value : new int[] {-1001, 1001, MIN, MAX}) {
            unchanged("read(9, 3, " + value + ")", -2, x -> x.read(9, 3, value));
        }
        for (int i : new int[] {-1, 6, 99, 100, MIN, MAX}) {
            unchanged("reading(" + i + ", 0)", -1000001, x -> x.reading(i, 0));
            unchanged("reading(0, " + i + ")", -1000002, x -> x.reading(0, i));
        }
        unchanged("across(3)", -1000005, x -> x.across(3));
        unchanged("along(3, 20)", -1000005, x -> x.along(3, 20));
        unchanged("take(), one having none", -5, BroadSheet::take);
    }

    private void refusedCallsOfTheLipsChangeNothing() {
        DUE.by("Terms: They change nothing, promises 10 to 16");
        for (int n : new int[] {-1, 41, MIN, MAX}) {
            unchanged("laws(" + n + ", 20)", -2, x -> x.laws(n, 20));
            unchanged("laws(20, " + n + ")", -2, x -> x.laws(20, n));
        }
        unchanged("laws(21, 20)", -2, x -> x.laws(21, 20));
        unchanged("laws(4, 40), too far apart", -5, x -> x.laws(4, 40));
        unchanged("laws(20, 6), bent too far", -5, x -> x.laws(20, 6));
        for (int n : new int[] {0, 21, MIN, MAX}) {
            unchanged("spread(" + n + ", 3)", -2, x -> x.spread(n, 3));
        }
        for (int n : new int[] {-6, 6, MIN, MAX}) {
            unchanged("spread(3, " + n + ")", -2, x -> x.spread(3, n));
        }
        for (int place : new int[] {-1, 5, 23, MIN, MAX}) {
            unchanged("base(" + place + ", 1)", -1, x -> x.base(place, 1));
            unchanged("set(" + place + ", 1)", -1, x -> x.set(place, 1));
            unchanged("about(" + place + ", 0)", -1000001, x -> x.about(place, 0));
        }
        for (int v : new int[] {-2001, 2001, MIN, MAX}) {
            unchanged("base(4, " + v + ")", -2, x -> x.base(4, v));
        }
        for (int v : new int[] {-11, 11, MIN, MAX}) {
            unchanged("set(4, " + v + ")", -2, x -> x.set(4, v));
        }
        unchanged("set(0, 5), bent too far", -5, x -> x.set(0, 5));
        unchanged("set(4, -7), too far apart", -5, x -> x.set(4, -7));
        unchanged("set(2, 10), both", -5, x -> x.set(2, 10));
        for (int n : new int[] {-1, 3, MIN, MAX}) {
            unchanged("about(0, " + n + ")", -1000002, x -> x.about(0, n));
            unchanged("uneven(" + n + ")", -2, x -> x.uneven(n));
            unchanged("best(" + n + ")", -2, x -> x.best(n));
        }
        unchanged("uneven(2)", -2, x -> x.uneven(2));
        unchanged("best(2)", -2, x -> x.best(2));
    }

    private void refusedCallsOfSetsChangeNothing() {
        DUE.by("Terms: They change nothing, promises 17 to 20");
        for (int n : new int[] {0, 25, MIN, MAX}) {
            unchanged("kind(" + n + ", 9, 2000)", -2, x -> x.kind(n, 9, 2000));
        }
        for (int n : new int[] {0, 1001, MIN, MAX}) {
            unchanged("kind(1, " + n + ", 2000)", -2, x -> x.kind(1, n, 2000));
        }
        for (int n : new int[] {-1, 2001, MIN, MAX}) {
            unchanged("kind(1, 9, " + n + ")", -2, x -> x.kind(1, 9, n));
        }
        for (int n : new int[] {-1, 5, 23, MIN, MAX}) {
            unchanged("canLie(0, " + n + ")", -1, x -> x.canLie(0, n));
            unchanged("canLie(" + n + ", 0)", -1, x -> x.canLie(n, 0));
            unchanged("cutAt(" + n + ")", -1, x -> x.cutAt(n));
        }
        unchanged("canLie(3, 0)", -1, x -> x.canLie(3, 0));
    }

    private void refusedCallsOfGradesChangeNothing() {
        DUE.by("Terms: They change nothing, promises 21 to 25");
        for (int n : new int[] {-1, 3, 8, MIN, MAX}) {
            unchanged("cost(" + n + ", 1, 5)", -1, x -> x.cost(n, 1, 5));
            unchanged("cost(1, " + n + ", 5)", -1, x -> x.cost(1, n, 5));
            unchanged("tour(" + n + ")", -1, x -> x.tour(n));
            unchanged("tourAt(" + n + ", 0)", -1, x -> x.tourAt(n, 0));
            unchanged("tourAt(0, " + n + ")", -6, x -> x.tourAt(0, n));
        }
        for (int n : new int[] {-1, 1001, MIN, MAX}) {
            unchanged("cost(0, 1, " + n + ")", -2, x -> x.cost(0, 1, n));
        }
        for (int g = 0; g < 3; g++) {
            int one = g;
            unchanged("cost(" + g + ", " + g + ", 5)", -5, x -> x.cost(one, one, 5));
        }
        for (int n : new int[] {-1, 9, MIN, MAX}) {
            unchanged("told(" + n + ")", -1002, x -> x.told(n));
        }
    }

    private void questionsChangeNothing() {
        DUE.by("Promises 4 to 7, 14, 15, 18 to 20, 23 to 25: what is told, and no more");
        unchanged("reading(2, 3)", 0, x -> x.reading(2, 3));
        unchanged("across(2)", -21, x -> x.across(2));
        unchanged("along(9, 3)", -29, x -> x.along(9, 3));
        unchanged("groups()", 3, BroadSheet::groups);
        unchanged("about(1, 2)", -97, x -> x.about(1, 2));
        unchanged("uneven(1)", 106, x -> x.uneven(1));
        unchanged("canLie(2, 0)", 1, x -> x.canLie(2, 0));
        unchanged("cut()", 9, BroadSheet::cut);
        unchanged("cutAt(0)", 2, x -> x.cutAt(0));
        unchanged("tour(0)", 11, x -> x.tour(0));
        unchanged("tourAt(0, 2)", 2, x -> x.tourAt(0, 2));
        unchanged("told(8)", -2, x -> x.told(8));
    }

    private void fullChangesNothing() {
        DUE.by("Terms: They change nothing, FULL");
        unchanged("read(9, 3, 0)", -4, x -> x.read(9, 3, 0));
        unchanged("read(39, 23, 1000)", -4, x -> x.read(39, 23, 1000));
        unchanged("kind(1, 1000, 2000)", -4, x -> x.kind(1, 1000, 2000));
        unchanged("grade()", -4, BroadSheet::grade);
        unchanged("sheet(25)", -2, x -> x.sheet(25));
        unchanged("set(22, 3), too far apart", -5, x -> x.set(22, 3));
        unchanged("laws(9, 40)", -5, x -> x.laws(9, 40));
        unchanged("laws(20, 9)", -5, x -> x.laws(20, 9));
    }

    private void takeChangesNothing() {
        DUE.by("Terms: They change nothing, take()");
        unchanged("take()", -5, BroadSheet::take);
    }

    private void refusedOnANewSheetChangesNothing() {
        DUE.by("Terms: They change nothing, there being nothing yet");
        unchanged("take()", -5, BroadSheet::take);
        unchanged("reading(0, 0)", -1000001, x -> x.reading(0, 0));
        unchanged("canLie(0, 0)", -1, x -> x.canLie(0, 0));
        unchanged("cost(0, 1, 5)", -1, x -> x.cost(0, 1, 5));
        unchanged("tour(0)", -1, x -> x.tour(0));
        unchanged("tourAt(0, 0)", -1, x -> x.tourAt(0, 0));
    }
}
