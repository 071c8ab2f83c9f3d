/** Promises 21 to 24 (grade, cost, tour, tourAt) at their edges, a sentence of the document at a time. */
final class GradesEdgesTest {
    private static final Due DUE = new Due("GradesEdgesTest");
    private static final Edges THREE = new Edges(DUE, () -> Sheets.withGrades(3));
    private static final Edges NINE = new Edges(DUE, () -> Sheets.withGrades(9));

    public static void main(String[] args) {
        gradesAreNumberedFromZeroOn();
        gradeIsFullBehindNine();
        gradeIsFullBehindAll();
        costIsHundredAtFirst();
        costTakesCosts();
        costRefusesCosts();
        costRefusesGrades();
        costWithoutGrades();
        costOfOneGrade();
        costTellsWhatItCost();
        costOfOneWayAlone();
        costRefusedIsNotKept();
        tourRefusesGrades();
        tourWithoutGrades();
        tourOfOne();
        tourOfTwo();
        tourOfTheLeast();
        tourOfTheMost();
        tourHasEachOnce();
        tourPaysNoWayHome();
        tourFromEachGrade();
        tourAtRefusesGrades();
        tourAtBeginsWithItself();
        tourAtBeyond();
        tourAtUnknownGoesAheadOfNone();
        tourAtPrefersTheLesserGrade();
        tourAtLooksAtTheFirstDifference();
        tourAtNeedsNoTourAhead();
        DUE.end();
    }

    private static void tourIs(String when, BroadSheet x, int costs, int... want) {
        for (int i = 0; i < want.length; i++) {
            DUE.is(when + ", tourAt(" + want[0] + ", " + i + ")", x.tourAt(want[0], i), want[i]);
        }
        DUE.is(when + ", tourAt(" + want[0] + ", " + want.length + ")", x.tourAt(want[0], want.length), -6);
        DUE.is(when + ", tour(" + want[0] + ")", x.tour(want[0]), costs);
    }

    private static void allCost(BroadSheet x, int c) {
        int grades = x.told(4);
        for (int from = 0; from < grades; from++) {
            for (int to = 0; to < grades; to++) {
                x.cost(from, to, c);
            }
        }
    }

    private static void gradesAreNumberedFromZeroOn() {
        DUE.by("21: GRADES, 9 at most, numbered from 0 on");
        BroadSheet x = new BroadSheet();
        for (int g = 0; g < 9; g++) {
            DUE.is("told(4)", x.told(4), g);
            DUE.is("tour(" + g + ") ahead of it", x.tour(g), -1);
            DUE.is("grade()", x.grade(), g);
            DUE.is("tour(" + g + ") behind it", x.tour(g), 100 * g);
        }
    }

    private static void gradeIsFullBehindNine() {
        DUE.by("21: FULL");
        BroadSheet x = Sheets.withGrades(9);
        DUE.is("the tenth", x.grade(), -4);
        DUE.is("once more", x.grade(), -4);
        DUE.is("told(4)", x.told(4), 9);
        DUE.is("tour(8)", x.tour(8), 800);
        DUE.is("tour(9)", x.tour(9), -1);
    }

    private static void gradeIsFullBehindAll() {
        DUE.by("21: FULL, for GRADES stay");
        BroadSheet x = Sheets.withGrades(9);
        x.sheet(2);
        x.clear();
        DUE.is("behind sheet(2) and clear()", x.grade(), -4);
    }

    private static void costIsHundredAtFirst() {
        DUE.by("22: changing from one to another costs (100 at first)");
        BroadSheet x = Sheets.withGrades(9);
        for (int from = 0; from < 9; from++) {
            for (int to = 0; to < 9; to++) {
                DUE.is("cost(" + from + ", " + to + ", 1)", x.cost(from, to, 1), from == to ? -5 : 100);
            }
        }
    }

    private static void costTakesCosts() {
        DUE.by("22: costs (0 to 1000)");
        for (int c : new int[] {0, 1, 999, 1000}) {
            THREE.taken("cost of c", (x, costs) -> x.cost(0, 2, costs), c, 100, x -> x.cost(0, 2, 5));
        }
    }

    private static void costRefusesCosts() {
        DUE.by("22: OUTSIDE");
        THREE.refused("cost of c", (x, costs) -> x.cost(0, 2, costs), 0, 1000, -2);
        NINE.refused("cost of c", (x, costs) -> x.cost(8, 7, costs), 0, 1000, -2);
    }

    private static void costRefusesGrades() {
        DUE.by("22: UNKNOWN");
        THREE.refused("cost of from", (x, from) -> x.cost(from, 1, 5), 0, 2, -1);
        THREE.refused("cost of to", (x, to) -> x.cost(1, to, 5), 0, 2, -1);
        THREE.refused("cost of both", (x, both) -> x.cost(both, both, 5), 0, 2, -1);
        NINE.refused("cost of from", (x, from) -> x.cost(from, 1, 5), 0, 8, -1);
        NINE.refused("cost of to", (x, to) -> x.cost(1, to, 5), 0, 8, -1);
        NINE.taken("cost from the last", (x, from) -> x.cost(from, 0, 5), 8, 100);
        NINE.taken("cost to the last", (x, to) -> x.cost(0, to, 5), 8, 100);
    }

    private static void costWithoutGrades() {
        DUE.by("22: UNKNOWN, there being no GRADES, or one");
        DUE.is("none", new BroadSheet().cost(0, 0, 5), -1);
        BroadSheet x = Sheets.withGrades(1);
        DUE.is("from one to none", x.cost(0, 1, 5), -1);
        DUE.is("from none to one", x.cost(1, 0, 5), -1);
        DUE.is("from one to itself", x.cost(0, 0, 5), -5);
    }

    private static void costOfOneGrade() {
        DUE.by("22: NO: they are one");
        for (int g = 0; g < 9; g++) {
            BroadSheet x = Sheets.withGrades(9);
            DUE.is("cost(" + g + ", " + g + ", 0)", x.cost(g, g, 0), -5);
            DUE.is("cost(" + g + ", " + g + ", 1000)", x.cost(g, g, 1000), -5);
            DUE.is("tour(" + g + ")", x.tour(g), 800);
        }
    }

    private static void costTellsWhatItCost() {
        DUE.by("22: What changing from one to another costs: what it cost");
        BroadSheet x = Sheets.withGrades(2);
        DUE.is("at first", x.cost(0, 1, 0), 100);
        DUE.is("behind 0", x.cost(0, 1, 1000), 0);
        DUE.is("behind 1000", x.cost(0, 1, 1000), 1000);
        DUE.is("the same again", x.cost(0, 1, 7), 1000);
        DUE.is("behind 7", x.cost(0, 1, 0), 7);
    }

    private static void costOfOneWayAlone() {
        DUE.by("22: from one to another");
        BroadSheet x = Sheets.withGrades(9);
        x.cost(0, 8, 3);
        DUE.is("the way back", x.cost(8, 0, 4), 100);
        DUE.is("the way there", x.cost(0, 8, 5), 3);
        DUE.is("one beside it", x.cost(0, 7, 5), 100);
        DUE.is("another beside it", x.cost(1, 8, 5), 100);
    }

    private static void costRefusedIsNotKept() {
        DUE.by("22: refused, it changes nothing");
        BroadSheet x = Sheets.withGrades(1);
        x.cost(0, 1, 5);
        x.cost(1, 0, 6);
        x.grade();
        DUE.is("told of a GRADE that was not there yet", x.cost(0, 1, 8), 100);
        DUE.is("told of a GRADE that was not there yet", x.cost(1, 0, 8), 100);
        x.cost(0, 1, 1001);
        x.cost(0, 1, -1);
        DUE.is("told of a number beyond", x.cost(0, 1, 9), 8);
    }

    private static void tourRefusesGrades() {
        DUE.by("23: UNKNOWN");
        THREE.refused("tour", BroadSheet::tour, 0, 2, -1);
        NINE.refused("tour", BroadSheet::tour, 0, 8, -1);
    }

    private static void tourWithoutGrades() {
        DUE.by("23: UNKNOWN, there being no GRADES");
        for (int from : Edges.beyond(0, -1)) {
            DUE.is("tour(" + from + ")", new BroadSheet().tour(from), -1);
            DUE.is("tourAt(" + from + ", 0)", new BroadSheet().tourAt(from, 0), -1);
        }
    }

    private static void tourOfOne() {
        DUE.by("23: THE TOUR has each once, there being one");
        tourIs("one", Sheets.withGrades(1), 0, 0);
    }

    private static void tourOfTwo() {
        DUE.by("23: THE TOUR has each once, there being two");
        BroadSheet x = Sheets.withGrades(2);
        x.cost(0, 1, 1000);
        x.cost(1, 0, 0);
        tourIs("the dear way", x, 1000, 0, 1);
        tourIs("the cheap way", x, 0, 1, 0);
    }

    private static void tourOfTheLeast() {
        DUE.by("23: with the least costs together, all 0");
        BroadSheet x = Sheets.withGrades(9);
        allCost(x, 0);
        tourIs("all 0", x, 0, 5, 0, 1, 2, 3, 4, 6, 7, 8);
    }

    private static void tourOfTheMost() {
        DUE.by("23: with the least costs together, all 1000");
        BroadSheet x = Sheets.withGrades(9);
        allCost(x, 1000);
        tourIs("all 1000", x, 8000, 8, 0, 1, 2, 3, 4, 5, 6, 7);
        tourIs("all 1000", x, 8000, 0, 1, 2, 3, 4, 5, 6, 7, 8);
    }

    private static void tourHasEachOnce() {
        DUE.by("23: THE TOUR has each once");
        BroadSheet x = Sheets.withGrades(4);
        allCost(x, 1000);
        x.cost(0, 1, 0);
        x.cost(1, 0, 0);
        x.cost(0, 2, 1);
        x.cost(0, 3, 1);
        tourIs("no way back through 0", x, 1001, 1, 0, 2, 3);
        tourIs("from 0 itself", x, 2000, 0, 1, 2, 3);
    }

    private static void tourPaysNoWayHome() {
        DUE.by("23: THE TOUR begins with one GRADE and has each once: no way back to it");
        BroadSheet x = Sheets.withGrades(3);
        x.cost(2, 0, 1000);
        tourIs("the way home is dear", x, 200, 0, 1, 2);
        x.cost(2, 0, 0);
        tourIs("the way home is free", x, 200, 0, 1, 2);
    }

    private static void tourFromEachGrade() {
        DUE.by("23: THE TOUR begins with one GRADE, any of them");
        BroadSheet x = Sheets.withGrades(9);
        for (int g = 0; g < 9; g++) {
            x.cost(g, (g + 1) % 9, g);
        }
        for (int from = 0; from < 9; from++) {
            DUE.is("tour(" + from + ")", x.tour(from), 36 - (from + 8) % 9);
            for (int i = 0; i < 9; i++) {
                DUE.is("tourAt(" + from + ", " + i + ")", x.tourAt(from, i), (from + i) % 9);
            }
        }
    }

    private static void tourAtRefusesGrades() {
        DUE.by("24: UNKNOWN");
        THREE.refused("tourAt of from", (x, from) -> x.tourAt(from, 0), 0, 2, -1);
        NINE.refused("tourAt of from", (x, from) -> x.tourAt(from, 8), 0, 8, -1);
    }

    private static void tourAtBeginsWithItself() {
        DUE.by("24: GRADE i of THE TOUR from a GRADE (0: itself)");
        for (int grades = 1; grades <= 9; grades++) {
            BroadSheet x = Sheets.withGrades(grades);
            for (int from = 0; from < grades; from++) {
                DUE.is("tourAt(" + from + ", 0) of " + grades, x.tourAt(from, 0), from);
            }
        }
    }

    private static void tourAtBeyond() {
        DUE.by("24: NONE beyond");
        for (int grades = 1; grades <= 9; grades++) {
            int n = grades;
            Edges some = new Edges(DUE, () -> Sheets.withGrades(n));
            some.refused("tourAt(0, i) of " + n, (x, i) -> x.tourAt(0, i), 0, n - 1, -6);
            some.refused("tourAt(last, i) of " + n, (x, i) -> x.tourAt(n - 1, i), 0, n - 1, -6);
            some.taken("tourAt(0, i) of " + n, (x, i) -> x.tourAt(0, i), n - 1, n - 1);
        }
    }

    private static void tourAtUnknownGoesAheadOfNone() {
        DUE.by("24: UNKNOWN, whatever i is");
        for (int i : Edges.beyond(0, 2)) {
            DUE.is("tourAt(3, " + i + ")", Sheets.withGrades(3).tourAt(3, i), -1);
            DUE.is("tourAt(-1, " + i + ")", Sheets.withGrades(3).tourAt(-1, i), -1);
        }
    }

    private static void tourAtPrefersTheLesserGrade() {
        DUE.by("24: of several the one that has first the lesser GRADE");
        for (int from = 0; from < 9; from++) {
            BroadSheet x = Sheets.withGrades(9);
            for (int i = 1; i < 9; i++) {
                DUE.is("tourAt(" + from + ", " + i + ")", x.tourAt(from, i), i <= from ? i - 1 : i);
            }
        }
    }

    private static void tourAtLooksAtTheFirstDifference() {
        DUE.by("24: the one that has first the lesser GRADE");
        BroadSheet x = Sheets.withGrades(4);
        x.cost(3, 2, 50);
        x.cost(3, 1, 50);
        tourIs("1 first, though 2 ahead of 3 were lesser behind", x, 250, 0, 1, 3, 2);
        x.cost(2, 1, 50);
        tourIs("only one is the cheapest now", x, 200, 0, 3, 2, 1);
        x.cost(2, 1, 100);
        x.cost(0, 2, 99);
        tourIs("1 less goes ahead of all", x, 249, 0, 2, 3, 1);
    }

    private static void tourAtNeedsNoTourAhead() {
        DUE.by("24: of THE TOUR, as all is now");
        BroadSheet x = Sheets.withGrades(3);
        DUE.is("without tour()", x.tourAt(0, 1), 1);
        x.tour(0);
        x.cost(2, 1, 0);
        DUE.is("behind cost(2, 1, 0)", x.tourAt(0, 1), 2);
        x.tour(0);
        x.grade();
        DUE.is("behind grade()", x.tourAt(0, 3), 3);
        DUE.is("behind grade()", x.tourAt(3, 0), 3);
        x.tour(0);
        x.sheet(2);
        DUE.is("behind sheet(2)", x.tourAt(0, 1), 2);
    }
}
