/** Promises 1 (a new object), 2 (sheet) and 25 (told) at their edges, a sentence of the document at a time. */
final class SheetEdgesTest {
    private static final Due DUE = new Due("SheetEdgesTest");
    private static final Edges NEW = new Edges(DUE, BroadSheet::new);

    public static void main(String[] args) {
        newHasEightPlaces();
        newHasBasesAndSettingsZero();
        newHasTheWidestLaws();
        newHasMainTenAndSideZero();
        newHasNoReadings();
        newHasNoSets();
        newHasNoGrades();
        sheetTakesTwoToTwentyFour();
        sheetRefusesBeyond();
        sheetTellsHowManyThereWere();
        sheetHasNoReadings();
        sheetHasNothingThatHangsTogether();
        sheetHasNoSets();
        sheetHasBasesZero();
        sheetHasSettingsZero();
        sheetKeepsLaws();
        sheetKeepsMainAndSide();
        sheetKeepsGrades();
        sheetOfAsManyIsAnewToo();
        toldOfTheFewest();
        toldOfTheMost();
        toldOfOddReadings();
        toldRefuses();
        toldOfSideIsNoRefusal();
        lastCallIsAnswered();
        DUE.end();
    }

    private static void newHasEightPlaces() {
        DUE.by("1: THE SHEET has 2 to 24 PLACES across (8 at first), from 0 on");
        BroadSheet x = new BroadSheet();
        DUE.is("told(0)", x.told(0), 8);
        DUE.is("about(0, 0)", x.about(0, 0), 0);
        DUE.is("about(7, 0)", x.about(7, 0), 0);
        DUE.is("about(8, 0)", x.about(8, 0), -1000001);
        DUE.is("sheet(8)", x.sheet(8), 8);
    }

    private static void newHasBasesAndSettingsZero() {
        DUE.by("1: BASE of a PLACE (0 at first), a SETTING (0 at first)");
        BroadSheet x = new BroadSheet();
        for (int p = 0; p < 8; p++) {
            for (int what = 0; what <= 2; what++) {
                DUE.is("about(" + p + ", " + what + ")", x.about(p, what), 0);
            }
        }
        DUE.is("uneven(0)", x.uneven(0), 0);
        DUE.is("uneven(1)", x.uneven(1), 0);
    }

    private static void newHasTheWidestLaws() {
        DUE.by("1: NEXT (20 at first), BEND (40 at first)");
        BroadSheet x = new BroadSheet();
        DUE.is("told(5)", x.told(5), 20);
        DUE.is("told(6)", x.told(6), 40);
        DUE.is("set(0, 10)", x.set(0, 10), 1);
        DUE.is("set(1, -10), 20 apart", x.set(1, -10), 1);
        DUE.is("set(2, 10), a bend of 40", x.set(2, 10), 1);
    }

    private static void newHasMainTenAndSideZero() {
        DUE.by("1: MAIN (10 at first), SIDE (0 at first)");
        BroadSheet x = new BroadSheet();
        DUE.is("told(7)", x.told(7), 10);
        DUE.is("told(8)", x.told(8), 0);
        x.set(3, 1);
        DUE.is("about(2, 2)", x.about(2, 2), 0);
        DUE.is("about(3, 2)", x.about(3, 2), 10);
        DUE.is("about(4, 2)", x.about(4, 2), 0);
    }

    private static void newHasNoReadings() {
        DUE.by("1: no READINGS");
        BroadSheet x = new BroadSheet();
        DUE.is("told(1)", x.told(1), 0);
        DUE.is("told(2)", x.told(2), 0);
        DUE.is("reading(0, 0)", x.reading(0, 0), -1000001);
        DUE.is("groups()", x.groups(), 8);
        DUE.is("across(0)", x.across(0), 0);
        for (int p = 1; p < 8; p++) {
            DUE.is("across(" + p + ")", x.across(p), -1000005);
        }
        for (int t = 1; t < 40; t++) {
            DUE.is("along(" + t + ", 0)", x.along(t, 0), -1000005);
        }
        DUE.is("take()", x.take(), -5);
        DUE.is("clear()", x.clear(), 0);
    }

    private static void newHasNoSets() {
        DUE.by("1: no SETS");
        BroadSheet x = new BroadSheet();
        DUE.is("told(3)", x.told(3), 0);
        DUE.is("canLie(0, 0)", x.canLie(0, 0), -1);
        DUE.is("cut()", x.cut(), 0);
        for (int p = 0; p < 8; p++) {
            DUE.is("cutAt(" + p + ")", x.cutAt(p), -6);
        }
        DUE.is("kind(1, 1, 0)", x.kind(1, 1, 0), 0);
    }

    private static void newHasNoGrades() {
        DUE.by("1: no GRADES");
        BroadSheet x = new BroadSheet();
        DUE.is("told(4)", x.told(4), 0);
        DUE.is("tour(0)", x.tour(0), -1);
        DUE.is("tourAt(0, 0)", x.tourAt(0, 0), -1);
        DUE.is("cost(0, 1, 1)", x.cost(0, 1, 1), -1);
        DUE.is("cost(0, 0, 1)", x.cost(0, 0, 1), -1);
        DUE.is("grade()", x.grade(), 0);
    }

    private static void sheetTakesTwoToTwentyFour() {
        DUE.by("2: THE SHEET has 2 to 24 PLACES across, from 0 on");
        for (int places = 2; places <= 24; places++) {
            NEW.taken("sheet", BroadSheet::sheet, places, 8, x -> x.told(0));
            BroadSheet x = Sheets.of(places);
            DUE.is("about(0, 0) of " + places, x.about(0, 0), 0);
            DUE.is("about(last, 0) of " + places, x.about(places - 1, 0), 0);
            DUE.is("about(last + 1, 0) of " + places, x.about(places, 0), -1000001);
            DUE.is("groups() of " + places, x.groups(), places);
        }
    }

    private static void sheetRefusesBeyond() {
        DUE.by("2: OUTSIDE");
        NEW.refused("sheet", BroadSheet::sheet, 2, 24, -2);
        NEW.taken("sheet", BroadSheet::sheet, 0, -2);
        NEW.taken("sheet", BroadSheet::sheet, -8, -2);
    }

    private static void sheetTellsHowManyThereWere() {
        DUE.by("2: how many there were");
        BroadSheet x = new BroadSheet();
        DUE.is("sheet(2), the first", x.sheet(2), 8);
        DUE.is("sheet(24)", x.sheet(24), 2);
        DUE.is("sheet(25)", x.sheet(25), -2);
        DUE.is("sheet(3), behind a refused one", x.sheet(3), 24);
        DUE.is("sheet(3)", x.sheet(3), 3);
    }

    private static void sheetHasNoReadings() {
        DUE.by("2: PLACES anew (no READINGS)");
        BroadSheet x = Sheets.withAllReadings();
        x.sheet(8);
        DUE.is("told(1)", x.told(1), 0);
        DUE.is("told(2)", x.told(2), 0);
        DUE.is("reading(0, 0)", x.reading(0, 0), -1000001);
        DUE.is("clear()", x.clear(), 0);
        DUE.is("read(5, 6, 7), there is room", x.read(5, 6, 7), 1);
        DUE.is("reading(0, 1), from 0 on", x.reading(0, 1), 6);
        DUE.is("reading(1, 1)", x.reading(1, 1), -1000001);
    }

    private static void sheetHasNothingThatHangsTogether() {
        DUE.by("2: PLACES anew (no READINGS): nothing hangs together by them");
        BroadSheet x = Sheets.of(24);
        for (int p = 0; p < 24; p++) {
            x.read(0, p, p);
            x.read(p, 0, p);
        }
        x.sheet(24);
        DUE.is("groups()", x.groups(), 24);
        DUE.is("across(1)", x.across(1), -1000005);
        DUE.is("across(23)", x.across(23), -1000005);
        DUE.is("along(1, 0)", x.along(1, 0), -1000005);
        DUE.is("take()", x.take(), -5);
        DUE.is("read(0, 23, -900)", x.read(0, 23, -900), 1);
        DUE.is("read(0, 0, 900)", x.read(0, 0, 900), 1);
        DUE.is("across(23)", x.across(23), -1800);
    }

    private static void sheetHasNoSets() {
        DUE.by("2: PLACES anew (no SETS)");
        BroadSheet x = new BroadSheet();
        for (int k = 0; k < 4; k++) {
            x.kind(1, 1, 0);
        }
        x.sheet(8);
        DUE.is("told(3)", x.told(3), 0);
        DUE.is("canLie(0, 0)", x.canLie(0, 0), -1);
        DUE.is("cut()", x.cut(), 0);
        DUE.is("cutAt(0)", x.cutAt(0), -6);
        for (int k = 0; k < 4; k++) {
            DUE.is("kind(2, 3, 0), from 0 on", x.kind(2, 3, 0), k);
        }
        DUE.is("kind(2, 3, 0), the fifth", x.kind(2, 3, 0), -4);
    }

    private static void sheetHasBasesZero() {
        DUE.by("2: BASES 0");
        for (int between : new int[] {24, 2}) {
            BroadSheet x = Sheets.of(24);
            for (int p = 0; p < 24; p++) {
                x.base(p, 2000);
            }
            x.sheet(between);
            x.sheet(24);
            for (int p = 0; p < 24; p++) {
                DUE.is("about(" + p + ", 1)", x.about(p, 1), 0);
                DUE.is("about(" + p + ", 2)", x.about(p, 2), 0);
            }
        }
    }

    private static void sheetHasSettingsZero() {
        DUE.by("2: SETTINGS 0");
        for (int between : new int[] {24, 2}) {
            BroadSheet x = Sheets.of(24);
            for (int p = 0; p < 24; p++) {
                x.set(p, 10);
            }
            DUE.is("laws(0, 0), all being alike", x.laws(0, 0), 1);
            x.sheet(between);
            x.sheet(24);
            for (int p = 0; p < 24; p++) {
                DUE.is("about(" + p + ", 0)", x.about(p, 0), 0);
            }
            DUE.is("set(0, 1), the law being 0 still", x.set(0, 1), -5);
        }
    }

    private static void sheetKeepsLaws() {
        DUE.by("2: LAWS stay");
        BroadSheet x = new BroadSheet();
        x.laws(4, 3);
        x.sheet(3);
        DUE.is("told(5)", x.told(5), 4);
        DUE.is("told(6)", x.told(6), 3);
        DUE.is("set(0, 4), a bend of 4", x.set(0, 4), -5);
        DUE.is("set(0, 3)", x.set(0, 3), 1);
        x.sheet(2);
        DUE.is("set(0, 4)", x.set(0, 4), 1);
        DUE.is("set(0, 5)", x.set(0, 5), -5);
    }

    private static void sheetKeepsMainAndSide() {
        DUE.by("2: MAIN, SIDE stay");
        BroadSheet x = new BroadSheet();
        x.spread(20, -5);
        x.sheet(24);
        DUE.is("told(7)", x.told(7), 20);
        DUE.is("told(8)", x.told(8), -5);
        x.set(23, 2);
        DUE.is("about(23, 2)", x.about(23, 2), 40);
        DUE.is("about(22, 2)", x.about(22, 2), -10);
    }

    private static void sheetKeepsGrades() {
        DUE.by("2: GRADES stay");
        BroadSheet x = Sheets.withGrades(9);
        x.cost(8, 0, 1000);
        x.cost(0, 8, 0);
        x.sheet(2);
        DUE.is("told(4)", x.told(4), 9);
        DUE.is("grade()", x.grade(), -4);
        DUE.is("tour(0)", x.tour(0), 700);
        DUE.is("cost(8, 0, 1)", x.cost(8, 0, 1), 1000);
        DUE.is("cost(0, 8, 1)", x.cost(0, 8, 1), 0);
    }

    private static void sheetOfAsManyIsAnewToo() {
        DUE.by("2: PLACES anew, also as many as there were");
        BroadSheet x = Sheets.busy();
        DUE.is("sheet(5)", x.sheet(5), 5);
        int[] want = {5, 0, 0, 0, 3, 6, 8, 7, -2};
        for (int what = 0; what <= 8; what++) {
            DUE.is("told(" + what + ")", x.told(what), want[what]);
        }
        DUE.is("uneven(0)", x.uneven(0), 0);
        DUE.is("groups()", x.groups(), 5);
    }

    private static void toldOfTheFewest() {
        DUE.by("25: How many, as few as there can be");
        BroadSheet x = Sheets.of(2);
        x.laws(0, 0);
        x.spread(1, -5);
        int[] want = {2, 0, 0, 0, 0, 0, 0, 1, -5};
        for (int what = 0; what <= 8; what++) {
            DUE.is("told(" + what + ")", x.told(what), want[what]);
        }
    }

    private static void toldOfTheMost() {
        DUE.by("25: How many, as many as there can be");
        BroadSheet x = Sheets.of(24);
        for (int i = 0; i < 101; i++) {
            x.read(i % 40, i % 24, 0);
        }
        for (int n = 0; n < 10; n++) {
            x.kind(1, 1, 1);
            x.grade();
        }
        x.laws(20, 40);
        x.spread(20, 5);
        int[] want = {24, 100, 100, 4, 9, 20, 40, 20, 5};
        for (int what = 0; what <= 8; what++) {
            DUE.is("told(" + what + ")", x.told(what), want[what]);
        }
    }

    private static void toldOfOddReadings() {
        DUE.by("25: 1 READINGS, 2 that FIT");
        BroadSheet x = Sheets.withAllReadings();
        DUE.is("told(1)", x.told(1), 100);
        DUE.is("told(2)", x.told(2), 40);
        x.read(0, 0, 0);
        DUE.is("told(1) behind a full one", x.told(1), 100);
        DUE.is("told(2) behind a full one", x.told(2), 40);
        x.clear();
        x.read(0, 0, 1);
        x.read(0, 0, 2);
        DUE.is("told(1) behind clear()", x.told(1), 2);
        DUE.is("told(2) behind clear()", x.told(2), 1);
    }

    private static void toldRefuses() {
        DUE.by("25: OUTSIDE (-1002)");
        NEW.refused("told", BroadSheet::told, 0, 8, -1002);
    }

    private static void toldOfSideIsNoRefusal() {
        DUE.by("25: 8 SIDE, which may be what a refusal is");
        BroadSheet x = new BroadSheet();
        for (int side = -5; side <= 5; side++) {
            x.spread(1, side);
            DUE.is("told(8)", x.told(8), side);
        }
    }

    private static void lastCallIsAnswered() {
        DUE.by("An object is used for at most 512 calls after it has been made");
        BroadSheet x = new BroadSheet();
        for (int n = 1; n <= 128; n++) {
            DUE.is("sheet, round " + n, x.sheet(n % 23 + 2), n == 1 ? 8 : (n - 1) % 23 + 2);
            DUE.is("read, round " + n, x.read(n % 40, 0, n), 1);
            DUE.is("kind, round " + n, x.kind(1, n, 0), 0);
            DUE.is("cut, round " + n, x.cut(), n * (n % 23 + 2));
        }
    }
}
