import java.util.Random;

/** Promises 21 to 24: grades, their costs, and the tour. */
final class GradesTest {
    private static final Due DUE = new Due("GradesTest");

    public static void main(String[] args) {
        gradesAreNumbered();
        costTellsWhatItWas();
        costRefuses();
        tourOfOne();
        tourRefuses();
        tourIsTheCheapest();
        tourPrefersLesserGrades();
        tourFollowsChanges();
        tourAgainstAllOrders();
        DUE.end();
    }

    private static void tourIs(String when, BroadSheet x, int costs, int... want) {
        for (int i = 0; i < want.length; i++) {
            DUE.is(when + ", tourAt(" + want[0] + ", " + i + ")", x.tourAt(want[0], i), want[i]);
        }
        DUE.is(when + ", tour(" + want[0] + ")", x.tour(want[0]), costs);
    }

    private static void gradesAreNumbered() {
        BroadSheet x = new BroadSheet();
        for (int g = 0; g < 9; g++) {
            DUE.is("told(4)", x.told(4), g);
            DUE.is("grade()", x.grade(), g);
        }
        DUE.is("full", x.grade(), -4);
        DUE.is("told(4)", x.told(4), 9);
    }

    private static void costTellsWhatItWas() {
        BroadSheet x = Sheets.withGrades(9);
        DUE.is("cost(0, 8, 1000)", x.cost(0, 8, 1000), 100);
        DUE.is("cost(0, 8, 0)", x.cost(0, 8, 0), 1000);
        DUE.is("cost(0, 8, 3)", x.cost(0, 8, 3), 0);
        DUE.is("the way back is another", x.cost(8, 0, 3), 100);
    }

    private static void costRefuses() {
        BroadSheet x = Sheets.withGrades(3);
        DUE.is("cost(3, 0, 1)", x.cost(3, 0, 1), -1);
        DUE.is("cost(0, 3, 1)", x.cost(0, 3, 1), -1);
        DUE.is("cost(-1, 0, 1)", x.cost(-1, 0, 1), -1);
        DUE.is("cost(0, -1, 1)", x.cost(0, -1, 1), -1);
        DUE.is("cost(3, 3, 1001)", x.cost(3, 3, 1001), -1);
        DUE.is("cost(0, 1, 1001)", x.cost(0, 1, 1001), -2);
        DUE.is("cost(0, 1, -1)", x.cost(0, 1, -1), -2);
        DUE.is("cost(1, 1, -1)", x.cost(1, 1, -1), -2);
        DUE.is("cost(1, 1, 0)", x.cost(1, 1, 0), -5);
        DUE.is("nothing has changed", x.cost(0, 1, 5), 100);
    }

    private static void tourOfOne() {
        BroadSheet x = Sheets.withGrades(1);
        tourIs("one grade", x, 0, 0);
        DUE.is("tourAt(0, 1)", x.tourAt(0, 1), -6);
        DUE.is("tourAt(0, -1)", x.tourAt(0, -1), -6);
    }

    private static void tourRefuses() {
        BroadSheet x = new BroadSheet();
        DUE.is("tour(0) without grades", x.tour(0), -1);
        DUE.is("tourAt(0, 0) without grades", x.tourAt(0, 0), -1);
        x.grade();
        x.grade();
        DUE.is("tour(2)", x.tour(2), -1);
        DUE.is("tour(-1)", x.tour(-1), -1);
        DUE.is("tourAt(2, 0)", x.tourAt(2, 0), -1);
        DUE.is("tourAt(-1, 7)", x.tourAt(-1, 7), -1);
        DUE.is("tourAt(1, 2)", x.tourAt(1, 2), -6);
        DUE.is("tourAt(1, far)", x.tourAt(1, Integer.MAX_VALUE), -6);
        DUE.is("tourAt(1, far back)", x.tourAt(1, Integer.MIN_VALUE), -6);
    }

    private static void tourIsTheCheapest() {
        BroadSheet x = Sheets.withGrades(4);
        x.cost(0, 1, 1);
        x.cost(1, 2, 900);
        x.cost(1, 3, 900);
        x.cost(0, 3, 20);
        x.cost(3, 2, 20);
        x.cost(2, 1, 20);
        tourIs("not the cheapest step first", x, 60, 0, 3, 2, 1);
        tourIs("no way home is paid", x, 140, 2, 1, 0, 3);
    }

    private static void tourPrefersLesserGrades() {
        BroadSheet x = Sheets.withGrades(9);
        tourIs("all alike", x, 800, 4, 0, 1, 2, 3, 5, 6, 7, 8);
        tourIs("all alike", x, 800, 0, 1, 2, 3, 4, 5, 6, 7, 8);
        x.cost(8, 7, 99);
        tourIs("one step cheaper", x, 799, 0, 1, 2, 3, 4, 5, 6, 8, 7);
        x = Sheets.withGrades(9);
        for (int a = 0; a < 9; a++) {
            for (int b = 0; b < 9; b++) {
                x.cost(a, b, 1000);
            }
        }
        tourIs("the dearest", x, 8000, 8, 0, 1, 2, 3, 4, 5, 6, 7);
    }

    private static void tourFollowsChanges() {
        BroadSheet x = Sheets.withGrades(3);
        tourIs("at first", x, 200, 0, 1, 2);
        x.cost(2, 1, 7);
        tourIs("a cost less", x, 107, 0, 2, 1);
        x.cost(2, 1, 8);
        tourIs("a cost more", x, 108, 0, 2, 1);
        x.cost(2, 1, 1001);
        x.cost(2, 2, 1);
        tourIs("refused costs", x, 108, 0, 2, 1);
        x.grade();
        tourIs("a grade more", x, 208, 0, 2, 1, 3);
        tourIs("from another", x, 208, 3, 0, 2, 1);
    }

    private static void tourAgainstAllOrders() {
        Random random = new Random(5);
        for (int n = 0; n < 60; n++) {
            int grades = 2 + n % 6;
            BroadSheet x = Sheets.withGrades(grades);
            PlainSheet plain = new PlainSheet();
            for (int g = 0; g < grades; g++) {
                plain.grade();
            }
            for (int a = 0; a < grades; a++) {
                for (int b = 0; b < grades; b++) {
                    int c = random.nextInt(n % 2 == 0 ? 4 : 1001);
                    DUE.is("cost", x.cost(a, b, c), plain.cost(a, b, c));
                }
            }
            for (int from = 0; from < grades; from++) {
                DUE.is("tour(" + from + ") of " + n, x.tour(from), plain.tour(from));
                for (int i = 0; i < grades; i++) {
                    DUE.is("tourAt(" + from + ", " + i + ") of " + n, x.tourAt(from, i), plain.tourAt(from, i));
                }
            }
        }
    }
}
