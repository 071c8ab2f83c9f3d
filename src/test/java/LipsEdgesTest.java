import java.util.Arrays;

/** Promises 10 to 16 (laws, spread, base, set, about, uneven, best) at their edges, a sentence at a time. */
final class LipsEdgesTest {
    private static final Due DUE = new Due("LipsEdgesTest");
    private static final Edges NEW = new Edges(DUE, BroadSheet::new);

    public static void main(String[] args) {
        lawsTakeNext();
        lawsTakeBend();
        lawsRefuseBeyond();
        lawsOfSettingsAlike();
        lawsByNextAtEachPair();
        lawsByBendAtEachThree();
        lawsByBendOfASpike();
        lawsOfTheWidest();
        lawsOfTwoPlacesHaveNoBend();
        spreadTakesMain();
        spreadTakesSide();
        spreadRefusesBeyond();
        baseTakesValues();
        baseRefusesValues();
        baseTakesPlaces();
        baseRefusesPlaces();
        setTakesSettings();
        setRefusesSettings();
        setTakesPlaces();
        setRefusesPlaces();
        setByNextOnEitherSide();
        setByBendOfThree();
        setByBendOfNeighbours();
        setOfTheSameAgain();
        setByLawsOfZero();
        setRefusedLeavesSettings();
        aboutRefusesPlaces();
        aboutRefusesWhats();
        errorAtTheEnds();
        errorOfTwoPlaces();
        errorOfTheMost();
        unevenTakesKinds();
        unevenOfSizes();
        unevenOfOnePlaceAlone();
        unevenOfTheMost();
        bestRefusesKinds();
        bestOfNothing();
        bestAtTheEndsOfSettings();
        bestOfTheMost();
        bestOfErrorsOfOne();
        bestOfHalves();
        bestPrefersTheLesserFirst();
        bestOfTheGreatestAlone();
        bestByNext();
        bestByBend();
        bestByAStraightLine();
        bestByLawsOfZero();
        bestForgetsSettingsAhead();
        bestPutsWhatUnevenTells();
        DUE.end();
    }

    private static void settingsAre(String when, BroadSheet x, int... want) {
        for (int p = 0; p < want.length; p++) {
            DUE.is(when + ", about(" + p + ", 0)", x.about(p, 0), want[p]);
        }
    }

    private static int[] all(int places, int setting) {
        int[] settings = new int[places];
        Arrays.fill(settings, setting);
        return settings;
    }

    private static void lawsTakeNext() {
        DUE.by("10: NEXT (0 to 20)");
        for (int n = 0; n <= 20; n++) {
            NEW.taken("laws of NEXT", (x, next) -> x.laws(next, 7), n, 1, x -> x.told(5));
        }
    }

    private static void lawsTakeBend() {
        DUE.by("10: BEND (0 to 40)");
        for (int b = 0; b <= 40; b++) {
            NEW.taken("laws of BEND", (x, bend) -> x.laws(7, bend), b, 1, x -> x.told(6));
        }
    }

    private static void lawsRefuseBeyond() {
        DUE.by("10: OUTSIDE");
        NEW.refused("laws of NEXT", (x, next) -> x.laws(next, 0), 0, 20, -2);
        NEW.refused("laws of BEND", (x, bend) -> x.laws(0, bend), 0, 40, -2);
        NEW.taken("laws of NEXT, which BEND could be", (x, next) -> x.laws(next, 40), 40, -2);
    }

    private static void lawsOfSettingsAlike() {
        DUE.by("10: NO: SETTINGS are not by these LAWS; alike they are by any");
        for (int setting : new int[] {-10, 0, 10}) {
            DUE.is("laws(0, 0), all " + setting, Sheets.withSettings(all(24, setting)).laws(0, 0), 1);
        }
    }

    private static void lawsByNextAtEachPair() {
        DUE.by("10: of two neighbours SETTINGS differ by NEXT at most");
        for (int places : new int[] {2, 5, 24}) {
            for (int p = 1; p < places; p++) {
                for (int step = -3; step <= 3; step += 6) {
                    int[] settings = new int[places];
                    Arrays.fill(settings, p, places, step);
                    BroadSheet x = Sheets.withSettings(settings);
                    DUE.is("laws(2, 40), a step of " + step + " at " + p, x.laws(2, 40), -5);
                    DUE.is("laws(3, 40), a step of " + step + " at " + p, x.laws(3, 40), 1);
                }
            }
        }
    }

    private static void lawsByBendAtEachThree() {
        DUE.by("10: of three side by side the middle one twice less both others is BEND in size at most");
        for (int middle = 1; middle <= 3; middle++) {
            for (int slope = -3; slope <= 3; slope += 6) {
                int[] settings = new int[5];
                for (int p = middle; p < 5; p++) {
                    settings[p] = slope * (p - middle);
                }
                BroadSheet x = Sheets.withSettings(settings);
                DUE.is("laws(20, 2), a bend at " + middle, x.laws(20, 2), -5);
                DUE.is("laws(20, 3), a bend at " + middle, x.laws(20, 3), 1);
            }
        }
        BroadSheet x = Sheets.withSettings(1, 2, 3, 4, 5, 6, 7, 8, 9, 10);
        DUE.is("laws(1, 0), a straight line", x.laws(1, 0), 1);
        DUE.is("laws(0, 0)", x.laws(0, 0), -5);
    }

    private static void lawsByBendOfASpike() {
        DUE.by("10: the middle one twice");
        for (int places : new int[] {3, 24}) {
            for (int p = 0; p < places; p++) {
                int[] settings = new int[places];
                settings[p] = p % 2 == 0 ? 4 : -4;
                int bend = p == 0 || p == places - 1 ? 4 : 8;
                BroadSheet x = Sheets.withSettings(settings);
                DUE.is("laws(20, " + (bend - 1) + "), a spike at " + p, x.laws(20, bend - 1), -5);
                DUE.is("laws(20, " + bend + "), a spike at " + p, x.laws(20, bend), 1);
            }
        }
    }

    private static void lawsOfTheWidest() {
        DUE.by("10: NEXT 20, BEND 40 bind nothing");
        for (int sign = -1; sign <= 1; sign += 2) {
            BroadSheet x = Sheets.withSettings(10 * sign, -10 * sign, 10 * sign);
            DUE.is("laws(20, 40)", x.laws(20, 40), 1);
            DUE.is("laws(20, 39)", x.laws(20, 39), -5);
            DUE.is("laws(19, 40)", x.laws(19, 40), -5);
        }
    }

    private static void lawsOfTwoPlacesHaveNoBend() {
        DUE.by("10: of three side by side, which two PLACES have not");
        BroadSheet x = Sheets.withSettings(-10, 10);
        DUE.is("laws(20, 0)", x.laws(20, 0), 1);
        DUE.is("laws(19, 0)", x.laws(19, 0), -5);
    }

    private static void spreadTakesMain() {
        DUE.by("11: MAIN (1 to 20)");
        for (int m = 1; m <= 20; m++) {
            NEW.taken("spread of MAIN", (x, main) -> x.spread(main, 0), m, 1, x -> x.told(7));
        }
    }

    private static void spreadTakesSide() {
        DUE.by("11: SIDE (-5 to 5)");
        for (int s = -5; s <= 5; s++) {
            NEW.taken("spread of SIDE", (x, side) -> x.spread(1, side), s, 1, x -> x.told(8));
        }
    }

    private static void spreadRefusesBeyond() {
        DUE.by("11: OUTSIDE");
        NEW.refused("spread of MAIN", (x, main) -> x.spread(main, 0), 1, 20, -2);
        NEW.refused("spread of SIDE", (x, side) -> x.spread(1, side), -5, 5, -2);
        NEW.taken("spread of MAIN", (x, main) -> x.spread(main, 0), -10, -2);
    }

    private static void baseTakesValues() {
        DUE.by("12: BASE of a PLACE (-2000 to 2000)");
        for (int v : new int[] {-2000, -1999, -1, 0, 1, 1999, 2000}) {
            NEW.taken("base of v", (x, value) -> x.base(7, value), v, 1, x -> x.about(7, 1));
        }
    }

    private static void baseRefusesValues() {
        DUE.by("12: OUTSIDE");
        NEW.refused("base of v", (x, value) -> x.base(0, value), -2000, 2000, -2);
        NEW.refused("base of v at the last PLACE", (x, value) -> x.base(7, value), -2000, 2000, -2);
    }

    private static void baseTakesPlaces() {
        DUE.by("12: BASE of a PLACE: 1");
        for (int places : new int[] {2, 8, 24}) {
            BroadSheet x = Sheets.of(places);
            for (int p = 0; p < places; p++) {
                DUE.is("base(" + p + ")", x.base(p, 100 + p), 1);
            }
            for (int p = 0; p < places; p++) {
                DUE.is("about(" + p + ", 1)", x.about(p, 1), 100 + p);
            }
        }
    }

    private static void baseRefusesPlaces() {
        DUE.by("12: UNKNOWN");
        for (int places : new int[] {2, 8, 24}) {
            new Edges(DUE, () -> Sheets.of(places))
                .refused("base of PLACE", (x, place) -> x.base(place, 0), 0, places - 1, -1);
        }
    }

    private static void setTakesSettings() {
        DUE.by("13: a SETTING (-10 to 10)");
        for (int s = -10; s <= 10; s++) {
            NEW.taken("set of x", (x, setting) -> x.set(7, setting), s, 1, x -> x.about(7, 0));
        }
    }

    private static void setRefusesSettings() {
        DUE.by("13: OUTSIDE");
        NEW.refused("set of x", (x, setting) -> x.set(0, setting), -10, 10, -2);
        NEW.refused("set of x at the last PLACE", (x, setting) -> x.set(7, setting), -10, 10, -2);
    }

    private static void setTakesPlaces() {
        DUE.by("13: THE LIPS, one at each PLACE; A SETTING: 1");
        for (int places : new int[] {2, 8, 24}) {
            BroadSheet x = Sheets.of(places);
            for (int p = 0; p < places; p++) {
                DUE.is("set(" + p + ")", x.set(p, p % 21 - 10), 1);
            }
            for (int p = 0; p < places; p++) {
                DUE.is("about(" + p + ", 0)", x.about(p, 0), p % 21 - 10);
            }
        }
    }

    private static void setRefusesPlaces() {
        DUE.by("13: UNKNOWN");
        for (int places : new int[] {2, 8, 24}) {
            new Edges(DUE, () -> Sheets.of(places))
                .refused("set of PLACE", (x, place) -> x.set(place, 0), 0, places - 1, -1);
        }
    }

    private static void setByNextOnEitherSide() {
        DUE.by("13: NO: SETTINGS would not be by LAWS, by NEXT");
        for (int places : new int[] {2, 3, 24}) {
            for (int p = 0; p < places; p++) {
                BroadSheet x = Sheets.of(places);
                x.laws(4, 40);
                DUE.is("set(" + p + ", 5)", x.set(p, 5), -5);
                DUE.is("set(" + p + ", -5)", x.set(p, -5), -5);
                DUE.is("set(" + p + ", 4)", x.set(p, 4), 1);
                DUE.is("set(" + p + ", -4)", x.set(p, -4), 1);
            }
        }
        BroadSheet x = Sheets.withSettings(0, 3, 6);
        x.laws(4, 40);
        DUE.is("too far from the one ahead", x.set(1, 5), -5);
        DUE.is("too far from the one behind", x.set(1, 1), -5);
        DUE.is("as far from the one ahead as may be", x.set(1, 4), 1);
        DUE.is("as far from the one behind as may be", x.set(1, 2), 1);
    }

    private static void setByBendOfThree() {
        DUE.by("13: NO: SETTINGS would not be by LAWS, by BEND");
        for (int sign = -1; sign <= 1; sign += 2) {
            BroadSheet x = Sheets.of(3);
            x.laws(20, 6);
            DUE.is("the one ahead counts once", x.set(0, 7 * sign), -5);
            DUE.is("the one ahead counts once", x.set(0, 6 * sign), 1);
            x.set(0, 0);
            DUE.is("the middle one counts twice", x.set(1, 4 * sign), -5);
            DUE.is("the middle one counts twice", x.set(1, 3 * sign), 1);
            x.set(1, 0);
            DUE.is("the one behind counts once", x.set(2, 7 * sign), -5);
            DUE.is("the one behind counts once", x.set(2, 6 * sign), 1);
            DUE.is("both others together", x.set(0, sign), -5);
            DUE.is("both others against one another", x.set(0, -10 * sign), 1);
        }
    }

    private static void setByBendOfNeighbours() {
        DUE.by("13: NO: SETTINGS would not be by LAWS, by BEND of a neighbour");
        BroadSheet x = Sheets.withSettings(4, 4, 4, 0);
        x.laws(20, 5);
        DUE.is("the neighbour behind bends by 5", x.set(1, 3), 1);
        DUE.is("the neighbour behind would bend by 6", x.set(1, 2), -5);
        x = Sheets.withSettings(0, 4, 4, 4);
        x.laws(20, 5);
        DUE.is("the neighbour ahead bends by 5", x.set(2, 3), 1);
        DUE.is("the neighbour ahead would bend by 6", x.set(2, 2), -5);
        for (int p = 0; p < 24; p++) {
            x = Sheets.of(24);
            x.laws(20, 7);
            boolean end = p == 0 || p == 23;
            DUE.is("set(" + p + ", 4)", x.set(p, 4), end ? 1 : -5);
            DUE.is("set(" + p + ", 8)", x.set(p, 8), -5);
            DUE.is("set(" + p + ", 3)", x.set(p, 3), 1);
        }
    }

    private static void setOfTheSameAgain() {
        DUE.by("13: A SETTING: 1, the same as it is");
        BroadSheet x = Sheets.withSettings(10, -10, 10);
        for (int p = 0; p < 3; p++) {
            DUE.is("set(" + p + ")", x.set(p, x.about(p, 0)), 1);
        }
        settingsAre("as they were", x, 10, -10, 10);
    }

    private static void setByLawsOfZero() {
        DUE.by("13: NO, LAWS being 0");
        BroadSheet x = Sheets.of(2);
        x.laws(0, 0);
        DUE.is("set(0, 1)", x.set(0, 1), -5);
        DUE.is("set(1, -1)", x.set(1, -1), -5);
        DUE.is("set(1, 0)", x.set(1, 0), 1);
    }

    private static void setRefusedLeavesSettings() {
        DUE.by("13: refused, it changes nothing");
        BroadSheet x = Sheets.withSettings(5, 6, 7);
        x.laws(1, 0);
        for (int p = 0; p < 3; p++) {
            DUE.is("set(" + p + ", 10)", x.set(p, 10), -5);
            DUE.is("set(" + p + ", 11)", x.set(p, 11), -2);
        }
        settingsAre("behind refused ones", x, 5, 6, 7);
    }

    private static void aboutRefusesPlaces() {
        DUE.by("14: UNKNOWN: LOST less 1");
        for (int places : new int[] {2, 8, 24}) {
            for (int what = 0; what <= 2; what++) {
                int w = what;
                new Edges(DUE, () -> Sheets.of(places))
                    .refused("about of " + w, (x, place) -> x.about(place, w), 0, places - 1, -1000001);
            }
        }
    }

    private static void aboutRefusesWhats() {
        DUE.by("14: OUTSIDE: LOST less 2");
        NEW.refused("about(0, what)", (x, what) -> x.about(0, what), 0, 2, -1000002);
        NEW.refused("about(7, what)", (x, what) -> x.about(7, what), 0, 2, -1000002);
    }

    private static void errorAtTheEnds() {
        DUE.by("14: ERROR: SIDE times those of its neighbours (where there are such)");
        for (int places : new int[] {3, 24}) {
            BroadSheet x = Sheets.of(places);
            x.spread(1, 5);
            x.set(0, 1);
            x.set(1, 2);
            x.set(places - 2, 2);
            x.set(places - 1, 3);
            DUE.is("the first of " + places, x.about(0, 2), 1 + 5 * 2);
            DUE.is("the last of " + places, x.about(places - 1, 2), 3 + 5 * 2);
            DUE.is("the second of " + places, x.about(1, 2), places == 3 ? 2 + 5 * 4 : 2 + 5);
        }
        BroadSheet x = Sheets.of(24);
        x.spread(20, 5);
        x.set(23, 10);
        x.sheet(4);
        x.set(3, 1);
        DUE.is("the last, a wider sheet being gone", x.about(3, 2), 20);
    }

    private static void errorOfTwoPlaces() {
        DUE.by("14: ERROR of two PLACES, each the other's one neighbour");
        BroadSheet x = Sheets.withBases(100, -100);
        x.spread(3, -5);
        x.set(0, 7);
        x.set(1, -4);
        DUE.is("about(0, 2)", x.about(0, 2), 100 + 21 + 20);
        DUE.is("about(1, 2)", x.about(1, 2), -100 - 12 - 35);
    }

    private static void errorOfTheMost() {
        DUE.by("14: ERROR: BASE, and MAIN times its SETTING, and SIDE times those of its neighbours, at their most");
        for (int sign = -1; sign <= 1; sign += 2) {
            BroadSheet x = Sheets.withBases(2000 * sign, 2000 * sign, 2000 * sign);
            x.spread(20, 5);
            for (int p = 0; p < 3; p++) {
                x.set(p, 10 * sign);
            }
            DUE.is("in the middle", x.about(1, 2), 2300 * sign);
            DUE.is("at the first end", x.about(0, 2), 2250 * sign);
            DUE.is("at the last end", x.about(2, 2), 2250 * sign);
            x.set(0, -10 * sign);
            x.set(2, -10 * sign);
            x.spread(20, -5);
            DUE.is("against both", x.about(1, 2), 2300 * sign);
        }
    }

    private static void unevenTakesKinds() {
        DUE.by("15: kind 0, 1; OUTSIDE");
        NEW.taken("uneven", BroadSheet::uneven, 0, 0);
        NEW.taken("uneven", BroadSheet::uneven, 1, 0);
        NEW.refused("uneven", BroadSheet::uneven, 0, 1, -2);
    }

    private static void unevenOfSizes() {
        DUE.by("15: The sum of sizes of ERRORS (kind 0), the greatest (1)");
        BroadSheet x = Sheets.withBases(-1, 1);
        DUE.is("uneven(0), not 0", x.uneven(0), 2);
        DUE.is("uneven(1)", x.uneven(1), 1);
        x = Sheets.withBases(-7, 3, -2);
        DUE.is("uneven(0)", x.uneven(0), 12);
        DUE.is("uneven(1), a size below 0 being the greatest", x.uneven(1), 7);
    }

    private static void unevenOfOnePlaceAlone() {
        DUE.by("15: of all PLACES, from the first to the last");
        for (int places : new int[] {2, 8, 24}) {
            for (int p = 0; p < places; p++) {
                BroadSheet x = Sheets.of(places);
                x.base(p, -2000);
                DUE.is("uneven(0), one at " + p, x.uneven(0), 2000);
                DUE.is("uneven(1), one at " + p, x.uneven(1), 2000);
            }
        }
        BroadSheet x = Sheets.of(24);
        x.base(23, 2000);
        x.sheet(2);
        DUE.is("uneven(0), a wider sheet being gone", x.uneven(0), 0);
    }

    private static void unevenOfTheMost() {
        DUE.by("15: The sum of sizes of ERRORS, all at their most");
        for (int sign = -1; sign <= 1; sign += 2) {
            BroadSheet x = Sheets.of(24);
            x.spread(20, 5);
            for (int p = 0; p < 24; p++) {
                x.base(p, 2000 * sign);
                x.set(p, 10 * sign);
            }
            DUE.is("uneven(0)", x.uneven(0), 22 * 2300 + 2 * 2250);
            DUE.is("uneven(1)", x.uneven(1), 2300);
        }
    }

    private static void bestRefusesKinds() {
        DUE.by("16: OUTSIDE");
        NEW.refused("best", BroadSheet::best, 0, 1, -2);
        NEW.taken("best", BroadSheet::best, 0, 0);
        NEW.taken("best", BroadSheet::best, 1, 0);
    }

    private static void bestOfNothing() {
        DUE.by("16: THE BEST SETTINGS, all BASES being 0");
        for (int places : new int[] {2, 3, 24}) {
            for (int kind = 0; kind <= 1; kind++) {
                BroadSheet x = Sheets.withSettings(all(places, 7));
                DUE.is("best(" + kind + ")", x.best(kind), 0);
                settingsAre("best(" + kind + ")", x, all(places, 0));
            }
        }
    }

    private static void bestAtTheEndsOfSettings() {
        DUE.by("16: THE BEST SETTINGS (-10 to 10)");
        for (int sign = -1; sign <= 1; sign += 2) {
            BroadSheet x = Sheets.withBases(100 * sign, -100 * sign);
            DUE.is("best(0), just at the end", x.best(0), 0);
            settingsAre("just at the end", x, -10 * sign, 10 * sign);
            x.base(0, 101 * sign);
            x.base(1, -110 * sign);
            DUE.is("best(0), beyond the end", x.best(0), 11);
            settingsAre("beyond the end", x, -10 * sign, 10 * sign);
        }
    }

    private static void bestOfTheMost() {
        DUE.by("16: the least sum of sizes of ERRORS, the least greatest size, of 24 PLACES and BASES of 2000");
        for (int sign = -1; sign <= 1; sign += 2) {
            BroadSheet x = Sheets.of(24);
            x.spread(20, 5);
            for (int p = 0; p < 24; p++) {
                x.base(p, 2000 * sign);
            }
            DUE.is("best(0)", x.best(0), 22 * 1700 + 2 * 1750);
            settingsAre("best(0)", x, all(24, -10 * sign));
            DUE.is("best(1)", x.best(1), 1750);
            DUE.is("uneven(1)", x.uneven(1), 1750);
        }
    }

    private static void bestOfErrorsOfOne() {
        DUE.by("16: sizes of ERRORS, those below 0 too");
        for (int places : new int[] {2, 3, 24}) {
            for (int p = 0; p < places; p++) {
                for (int base : new int[] {-9, -1, 1, 9}) {
                    for (int kind = 0; kind <= 1; kind++) {
                        BroadSheet x = Sheets.of(places);
                        x.base(p, base);
                        DUE.is("best(" + kind + "), " + base + " at " + p, x.best(kind), 1);
                        DUE.is("about(" + p + ", 0)", x.about(p, 0), base / -9);
                    }
                }
            }
        }
    }

    private static void bestOfHalves() {
        DUE.by("16: of several those that have the lesser SETTING, at each PLACE");
        for (int kind = 0; kind <= 1; kind++) {
            BroadSheet x = Sheets.withBases(5, -5, 95, -95, 105);
            int least = kind == 0 ? 25 : 5;
            DUE.is("best(" + kind + ")", x.best(kind), least);
            settingsAre("best(" + kind + ")", x, -1, 0, -10, 9, -10);
        }
    }

    private static void bestPrefersTheLesserFirst() {
        DUE.by("16: at the first PLACE at which they differ the lesser SETTING");
        BroadSheet x = Sheets.of(2);
        x.spread(5, 5);
        DUE.is("best(0), any two that are 0 together", x.best(0), 0);
        settingsAre("the lesser first, the greater behind", x, -10, 10);
        DUE.is("laws(19, 40), they being 20 apart", x.laws(19, 40), -5);
        x = Sheets.of(2);
        x.spread(5, 5);
        x.laws(19, 40);
        DUE.is("laws bind them", x.best(1), 0);
        settingsAre("as far apart as may be", x, -9, 9);
        x = Sheets.withBases(0, 0, 10);
        x.laws(0, 0);
        DUE.is("one place gives for two", x.best(0), 10);
        settingsAre("two places have more weight", x, 0, 0, 0);
        x.base(1, 10);
        x.base(2, 5);
        DUE.is("-1 is as good as 0", x.best(0), 15);
        settingsAre("-1 is as good as 0", x, -1, -1, -1);
        x = Sheets.withBases(0, 20);
        x.laws(0, 0);
        DUE.is("-2, -1 and 0 are as good", x.best(0), 20);
        settingsAre("the least, though its greatest is more", x, -2, -2);
    }

    private static void bestOfTheGreatestAlone() {
        DUE.by("16: the least greatest size (1); all others have the lesser SETTING");
        for (int at : new int[] {0, 11, 23}) {
            BroadSheet x = Sheets.of(24);
            x.base(at, -300);
            DUE.is("best(1), " + at, x.best(1), 200);
            int[] want = all(24, -10);
            want[at] = 10;
            settingsAre("best(1), " + at, x, want);
            x.base(at, 150);
            DUE.is("best(1), less at " + at, x.best(1), 50);
            want = all(24, -5);
            want[at] = -10;
            settingsAre("best(1), less at " + at, x, want);
        }
    }

    private static void bestByNext() {
        DUE.by("16: THE BEST SETTINGS, by LAWS: NEXT");
        BroadSheet x = Sheets.withBases(100, -100);
        x.laws(20, 40);
        DUE.is("best(0), NEXT 20", x.best(0), 0);
        settingsAre("NEXT 20", x, -10, 10);
        x.sheet(2);
        x.laws(19, 40);
        x.base(0, 100);
        x.base(1, -100);
        DUE.is("best(0), NEXT 19", x.best(0), 10);
        settingsAre("NEXT 19", x, -10, 9);
        DUE.is("best(1), NEXT 19", x.best(1), 10);
        settingsAre("NEXT 19", x, -10, 9);
        x = Sheets.of(24);
        x.laws(1, 40);
        x.base(23, -2000);
        DUE.is("best(1), NEXT 1", x.best(1), 1900);
        for (int p = 0; p < 24; p++) {
            DUE.is("about(" + p + ", 0), up to 10 step by step", x.about(p, 0), Math.max(-10, p - 13));
        }
    }

    private static void bestByBend() {
        DUE.by("16: THE BEST SETTINGS, by LAWS: BEND");
        BroadSheet x = Sheets.withBases(100, -100, 100);
        DUE.is("best(0), BEND 40", x.best(0), 0);
        settingsAre("BEND 40", x, -10, 10, -10);
        x.sheet(3);
        x.laws(20, 39);
        for (int p = 0; p < 3; p++) {
            x.base(p, p == 1 ? -100 : 100);
        }
        DUE.is("best(0), BEND 39", x.best(0), 10);
        settingsAre("BEND 39", x, -10, 9, -10);
        x.laws(20, 38);
        DUE.is("best(0), BEND 38", x.best(0), 10);
        settingsAre("BEND 38", x, -10, 9, -10);
    }

    private static void bestByAStraightLine() {
        DUE.by("16: THE BEST SETTINGS, by LAWS: BEND 0");
        for (int places = 21; places <= 22; places++) {
            BroadSheet x = Sheets.of(places);
            x.laws(1, 0);
            x.base(places - 1, -2000);
            DUE.is("best(1)", x.best(1), 1900);
            for (int p = 0; p < places; p++) {
                // A line that rises by 1 from -10 to 10 has 21 PLACES; with one more it must lie level.
                DUE.is("about(" + p + ", 0) of " + places, x.about(p, 0), places == 21 ? p - 10 : 10);
            }
        }
    }

    private static void bestByLawsOfZero() {
        DUE.by("16: THE BEST SETTINGS, by LAWS: both 0");
        BroadSheet x = Sheets.withBases(30, -30, 41);
        x.laws(0, 0);
        DUE.is("best(0)", x.best(0), 61 + 10);
        settingsAre("best(0)", x, -3, -3, -3);
        DUE.is("best(1)", x.best(1), 40);
        settingsAre("best(1)", x, -1, -1, -1);
    }

    private static void bestForgetsSettingsAhead() {
        DUE.by("16: THE BEST SETTINGS are the same whatever SETTINGS were");
        for (int kind = 0; kind <= 1; kind++) {
            BroadSheet x = Sheets.withSettings(10, 10, 10, 10);
            BroadSheet y = Sheets.withSettings(-10, 10, -10, 10);
            int[] bases = {55, -15, 105, 3};
            for (int p = 0; p < 4; p++) {
                x.base(p, bases[p]);
                y.base(p, bases[p]);
            }
            x.spread(9, 3);
            y.spread(9, 3);
            DUE.is("best(" + kind + ")", x.best(kind), y.best(kind));
            for (int p = 0; p < 4; p++) {
                DUE.is("about(" + p + ", 0)", x.about(p, 0), y.about(p, 0));
            }
        }
    }

    private static void bestPutsWhatUnevenTells() {
        DUE.by("16: SETTINGS are so; what uneven() tells then");
        for (int places : new int[] {2, 3, 24}) {
            for (int kind = 0; kind <= 1; kind++) {
                BroadSheet x = Sheets.of(places);
                for (int p = 0; p < places; p++) {
                    x.base(p, p * 977 % 400 - 200);
                }
                x.spread(7, -3);
                x.laws(3, 2);
                int told = x.best(kind);
                DUE.is("uneven(" + kind + ")", x.uneven(kind), told);
                DUE.is("laws(3, 2), by which they are", x.laws(3, 2), 1);
                DUE.is("best(" + kind + ") again", x.best(kind), told);
            }
        }
    }
}
