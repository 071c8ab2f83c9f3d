/** Promises 2 to 9: the sheet and the eye. */
final class EyeTest {
    private static final Due DUE = new Due("EyeTest");

    public static void main(String[] args) {
        sheetBeginsAnew();
        sheetKeepsLawsAndGrades();
        sheetRefuses();
        readFitsOrIsOdd();
        oddReadingsCountNoMore();
        readRefuses();
        readIsFullAtHundred();
        readingTellsAll();
        acrossHangsOnPlaceZero();
        acrossOverManyPlaces();
        alongComparesTimes();
        groupsAreOfPlaces();
        takeMakesBases();
        takeOfTheWidestSheet();
        takeRefuses();
        clearTakesReadingsAway();
        DUE.end();
    }

    private static void sheetBeginsAnew() {
        BroadSheet x = new BroadSheet();
        x.read(0, 0, 5);
        x.read(0, 7, 9);
        x.base(3, 44);
        x.base(7, 44);
        x.set(3, 4);
        x.set(7, 4);
        x.kind(1, 1, 1);
        DUE.is("sheet(24)", x.sheet(24), 8);
        DUE.is("sheet(2)", x.sheet(2), 24);
        DUE.is("sheet(8)", x.sheet(8), 2);
        DUE.is("told(0)", x.told(0), 8);
        DUE.is("told(1)", x.told(1), 0);
        DUE.is("told(2)", x.told(2), 0);
        DUE.is("told(3)", x.told(3), 0);
        DUE.is("groups()", x.groups(), 8);
        DUE.is("across(7)", x.across(7), -1000005);
        for (int p = 0; p < 8; p++) {
            DUE.is("about(" + p + ", 0)", x.about(p, 0), 0);
            DUE.is("about(" + p + ", 1)", x.about(p, 1), 0);
        }
        DUE.is("sheet of as many places", x.sheet(8), 8);
    }

    private static void sheetKeepsLawsAndGrades() {
        BroadSheet x = new BroadSheet();
        x.laws(3, 4);
        x.spread(7, -2);
        x.grade();
        x.grade();
        x.cost(0, 1, 6);
        x.sheet(5);
        DUE.is("told(4)", x.told(4), 2);
        DUE.is("told(5)", x.told(5), 3);
        DUE.is("told(6)", x.told(6), 4);
        DUE.is("told(7)", x.told(7), 7);
        DUE.is("told(8)", x.told(8), -2);
        DUE.is("tour(0)", x.tour(0), 6);
    }

    private static void sheetRefuses() {
        BroadSheet x = new BroadSheet();
        x.read(0, 0, 5);
        for (int places : new int[] {1, 0, -1, 25, Integer.MIN_VALUE, Integer.MAX_VALUE}) {
            DUE.is("sheet(" + places + ")", x.sheet(places), -2);
        }
        DUE.is("places stay", x.told(0), 8);
        DUE.is("readings stay", x.told(1), 1);
    }

    private static void readFitsOrIsOdd() {
        BroadSheet x = new BroadSheet();
        DUE.is("read(3, 2, 100)", x.read(3, 2, 100), 1);
        DUE.is("the same again", x.read(3, 2, 100), 1);
        DUE.is("another value", x.read(3, 2, 101), 0);
        DUE.is("read(3, 5, 90)", x.read(3, 5, 90), 1);
        DUE.is("read(4, 5, 70)", x.read(4, 5, 70), 1);
        DUE.is("round the net, wrong", x.read(4, 2, 79), 0);
        DUE.is("round the net, right", x.read(4, 2, 80), 1);
        DUE.is("told(2)", x.told(2), 5);
    }

    private static void oddReadingsCountNoMore() {
        BroadSheet x = new BroadSheet();
        x.read(0, 0, 0);
        x.read(0, 0, 50);
        DUE.is("an odd reading binds nothing", x.read(0, 1, 10), 1);
        DUE.is("the first one does", x.across(1), 10);
        DUE.is("odd again", x.read(0, 0, 50), 0);
    }

    private static void readRefuses() {
        BroadSheet x = new BroadSheet();
        DUE.is("read(0, -1, 0)", x.read(0, -1, 0), -1);
        DUE.is("read(0, 8, 0)", x.read(0, 8, 0), -1);
        DUE.is("read(-1, 8, 2000)", x.read(-1, 8, 2000), -1);
        DUE.is("read(-1, 0, 0)", x.read(-1, 0, 0), -2);
        DUE.is("read(40, 0, 0)", x.read(40, 0, 0), -2);
        DUE.is("read(0, 0, 1001)", x.read(0, 0, 1001), -2);
        DUE.is("read(0, 0, -1001)", x.read(0, 0, -1001), -2);
        DUE.is("told(1)", x.told(1), 0);
        DUE.is("read(39, 7, 1000)", x.read(39, 7, 1000), 1);
        DUE.is("read(0, 0, -1000)", x.read(0, 0, -1000), 1);
    }

    private static void readIsFullAtHundred() {
        BroadSheet x = new BroadSheet();
        for (int i = 0; i < 100; i++) {
            DUE.is("reading " + i, x.read(i % 40, 0, i), i < 40 ? 1 : 0);
        }
        DUE.is("full", x.read(0, 1, 0), -4);
        DUE.is("outside goes ahead of full", x.read(0, 1, 1001), -2);
        DUE.is("unknown goes ahead of full", x.read(0, 8, 0), -1);
        DUE.is("told(1)", x.told(1), 100);
        DUE.is("told(2)", x.told(2), 40);
        DUE.is("groups()", x.groups(), 8);
        DUE.is("clear()", x.clear(), 100);
        DUE.is("room again", x.read(0, 1, 0), 1);
    }

    private static void readingTellsAll() {
        BroadSheet x = new BroadSheet();
        x.read(7, 2, -33);
        x.read(7, 2, 12);
        int[][] want = {{7, 2, -33, 1}, {7, 2, 12, 0}};
        for (int i = 0; i < 2; i++) {
            for (int what = 0; what < 4; what++) {
                DUE.is("reading(" + i + ", " + what + ")", x.reading(i, what), want[i][what]);
            }
        }
        DUE.is("reading(2, 0)", x.reading(2, 0), -1000001);
        DUE.is("reading(-1, 0)", x.reading(-1, 0), -1000001);
        DUE.is("reading(2, 9)", x.reading(2, 9), -1000001);
        DUE.is("reading(0, 4)", x.reading(0, 4), -1000002);
        DUE.is("reading(0, -1)", x.reading(0, -1), -1000002);
    }

    private static void acrossHangsOnPlaceZero() {
        BroadSheet x = new BroadSheet();
        DUE.is("across(0) of a new sheet", x.across(0), 0);
        DUE.is("across(1) of a new sheet", x.across(1), -1000005);
        x.read(5, 3, 10);
        x.read(5, 4, 30);
        DUE.is("apart from place 0", x.across(4), -1000005);
        x.read(6, 0, 7);
        x.read(6, 3, 2);
        DUE.is("across(3)", x.across(3), -5);
        DUE.is("across(4)", x.across(4), 15);
        DUE.is("across(0)", x.across(0), 0);
        DUE.is("across(-1)", x.across(-1), -1000001);
        DUE.is("across(8)", x.across(8), -1000001);
    }

    private static void acrossOverManyPlaces() {
        BroadSheet x = new BroadSheet();
        x.sheet(24);
        for (int p = 0; p < 23; p++) {
            x.read(p, p, -1000);
            x.read(p, p + 1, 1000);
        }
        for (int p = 0; p < 24; p++) {
            DUE.is("across(" + p + ")", x.across(p), 2000 * p);
        }
        DUE.is("along(22, 0)", x.along(22, 0), -44000);
    }

    private static void alongComparesTimes() {
        BroadSheet x = new BroadSheet();
        x.read(0, 2, 10);
        x.read(39, 2, 25);
        x.read(1, 3, 4);
        DUE.is("along(39, 0)", x.along(39, 0), 15);
        DUE.is("along(0, 39)", x.along(0, 39), -15);
        DUE.is("along(0, 1)", x.along(0, 1), -1000005);
        DUE.is("along(20, 20), never read", x.along(20, 20), 0);
        DUE.is("along(20, 21)", x.along(20, 21), -1000005);
        DUE.is("along(40, 0)", x.along(40, 0), -1000001);
        DUE.is("along(0, 40)", x.along(0, 40), -1000001);
        DUE.is("along(-1, -1)", x.along(-1, -1), -1000001);
        DUE.is("along(40, 40)", x.along(40, 40), -1000001);
    }

    private static void groupsAreOfPlaces() {
        BroadSheet x = new BroadSheet();
        x.sheet(6);
        DUE.is("groups()", x.groups(), 6);
        x.read(0, 1, 1);
        DUE.is("a time joins nothing alone", x.groups(), 6);
        x.read(0, 2, 1);
        DUE.is("two places", x.groups(), 5);
        x.read(1, 4, 1);
        x.read(1, 5, 1);
        DUE.is("two and two", x.groups(), 4);
        x.read(1, 2, 1);
        DUE.is("four", x.groups(), 3);
        x.read(1, 1, 77);
        DUE.is("odd ones join nothing", x.groups(), 3);
        x.read(2, 0, 1);
        x.read(2, 3, 1);
        DUE.is("with place 0", x.groups(), 2);
        x.read(2, 5, 1);
        DUE.is("all", x.groups(), 1);
    }

    private static void takeMakesBases() {
        BroadSheet x = new BroadSheet();
        x.sheet(3);
        x.base(0, 99);
        x.read(0, 0, -1000);
        x.read(0, 1, 1000);
        x.read(1, 0, 1000);
        x.read(1, 2, -1000);
        DUE.is("take(), 2000 in size", x.take(), 1);
        DUE.is("about(0, 1)", x.about(0, 1), 0);
        DUE.is("about(1, 1)", x.about(1, 1), 2000);
        DUE.is("about(2, 1)", x.about(2, 1), -2000);
        DUE.is("readings stay", x.told(1), 4);
    }

    private static void takeOfTheWidestSheet() {
        BroadSheet x = new BroadSheet();
        x.sheet(24);
        for (int p = 0; p < 24; p++) {
            x.read(39, p, 10 * p - 100);
        }
        DUE.is("take() of 24", x.take(), 1);
        for (int p = 0; p < 24; p++) {
            DUE.is("about(" + p + ", 1)", x.about(p, 1), 10 * p);
        }
    }

    private static void takeRefuses() {
        BroadSheet x = new BroadSheet();
        x.sheet(3);
        x.base(1, 55);
        x.read(0, 0, 0);
        x.read(0, 1, 3);
        DUE.is("one has none", x.take(), -5);
        DUE.is("bases stay", x.about(1, 1), 55);
        x.read(0, 2, 1000);
        DUE.is("now all have", x.take(), 1);
        x.clear();
        x.read(0, 0, -1000);
        x.read(0, 1, 1000);
        x.read(1, 1, -1000);
        x.read(1, 2, -999);
        DUE.is("across(2)", x.across(2), 2001);
        DUE.is("beyond 2000", x.take(), -5);
        DUE.is("bases stay", x.about(1, 1), 3);
        x.clear();
        x.read(0, 0, 1000);
        x.read(0, 1, -1000);
        x.read(1, 1, 0);
        x.read(1, 2, -1);
        DUE.is("beyond -2000", x.take(), -5);
        DUE.is("bases stay", x.about(1, 1), 3);
    }

    private static void clearTakesReadingsAway() {
        BroadSheet x = new BroadSheet();
        DUE.is("clear() of none", x.clear(), 0);
        x.base(1, 12);
        x.kind(1, 1, 1);
        x.read(0, 0, 0);
        x.read(0, 1, 3);
        x.read(0, 1, 4);
        DUE.is("clear()", x.clear(), 3);
        DUE.is("told(1)", x.told(1), 0);
        DUE.is("told(2)", x.told(2), 0);
        DUE.is("reading(0, 0)", x.reading(0, 0), -1000001);
        DUE.is("across(1)", x.across(1), -1000005);
        DUE.is("what was odd fits now", x.read(0, 1, 4), 1);
        DUE.is("bases stay", x.about(1, 1), 12);
        DUE.is("kinds stay", x.told(3), 1);
    }
}
