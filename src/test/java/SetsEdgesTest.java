/** Promises 17 to 20 (kind, canLie, cut, cutAt) at their edges, a sentence of the document at a time. */
final class SetsEdgesTest {
    private static final Due DUE = new Due("SetsEdgesTest");
    private static final Edges NEW = new Edges(DUE, BroadSheet::new);

    public static void main(String[] args) {
        kindTakesWidths();
        kindTakesPrices();
        kindTakesBounds();
        kindRefusesBeyond();
        kindIsFullBehindFour();
        kindIsFullBehindClear();
        kindsMayBeAlike();
        canLieRefusesKinds();
        canLieRefusesPlaces();
        canLieWithoutKinds();
        setEndsOnTheSheet();
        setOfTheWidest();
        setTooWideForTheSheet();
        errorAtTheBound();
        errorAtEachPlaceOfTheSet();
        errorBesideTheSet();
        boundOfZero();
        boundOfTheMost();
        errorNotBaseCounts();
        cutOfNoKinds();
        cutWhereNoneCanLie();
        cutOfTheLeast();
        cutOfTheMost();
        cutOfSetsSideBySide();
        cutOfAsManyAsOneLikes();
        cutOfGreatestPriceNotMostSets();
        cutAtRefusesPlaces();
        cutAtBeginningsAlone();
        cutAtTheLastPlace();
        cutAtPrefersASetToNone();
        cutAtPrefersTheLesserKind();
        cutAtLooksAtTheFirstDifference();
        cutAtNeedsNoCutAhead();
        cutChangesNothing();
        DUE.end();
    }

    private static void cutIs(String when, BroadSheet x, int price, int... want) {
        for (int p = 0; p < want.length; p++) {
            DUE.is(when + ", cutAt(" + p + ")", x.cutAt(p), want[p]);
        }
        DUE.is(when + ", cut()", x.cut(), price);
    }

    private static void kindTakesWidths() {
        DUE.by("17: a width (1 to 24 PLACES)");
        for (int w = 1; w <= 24; w++) {
            NEW.taken("kind of width", (x, width) -> x.kind(width, 1, 0), w, 0);
            BroadSheet x = Sheets.of(24);
            x.kind(w, 1, 0);
            DUE.is("canLie(0, " + (24 - w) + ") of width " + w, x.canLie(0, 24 - w), 1);
            DUE.is("canLie(0, " + (25 - w) + ") of width " + w, x.canLie(0, 25 - w), w == 1 ? -1 : 0);
        }
    }

    private static void kindTakesPrices() {
        DUE.by("17: a price (1 to 1000)");
        for (int p : new int[] {1, 2, 999, 1000}) {
            NEW.taken("kind of price", (x, price) -> x.kind(8, price, 0), p, 0, BroadSheet::cut);
        }
    }

    private static void kindTakesBounds() {
        DUE.by("17: a bound (0 to 2000)");
        for (int b : new int[] {0, 1, 1999, 2000}) {
            NEW.taken("kind of bound", (x, bound) -> x.kind(1, 1, bound), b, 0);
            BroadSheet x = Sheets.withBases(b, b);
            x.kind(1, 1, b);
            x.set(1, 1);
            DUE.is("canLie(0, 0), at the bound of " + b, x.canLie(0, 0), 1);
            DUE.is("canLie(0, 1), above it", x.canLie(0, 1), 0);
        }
    }

    private static void kindRefusesBeyond() {
        DUE.by("17: OUTSIDE");
        NEW.refused("kind of width", (x, width) -> x.kind(width, 1, 0), 1, 24, -2);
        NEW.refused("kind of price", (x, price) -> x.kind(1, price, 0), 1, 1000, -2);
        NEW.refused("kind of bound", (x, bound) -> x.kind(1, 1, bound), 0, 2000, -2);
        NEW.taken("kind of width", (x, width) -> x.kind(width, 1, 0), -24, -2);
        BroadSheet x = new BroadSheet();
        x.kind(0, 1, 0);
        x.kind(1, 0, 0);
        x.kind(1, 1, -1);
        DUE.is("told(3) behind refused ones", x.told(3), 0);
        DUE.is("kind(1, 1, 0)", x.kind(1, 1, 0), 0);
    }

    private static void kindIsFullBehindFour() {
        DUE.by("17: SETS, 4 kinds at most, numbered from 0 on; FULL");
        BroadSheet x = new BroadSheet();
        for (int k = 0; k < 4; k++) {
            DUE.is("told(3)", x.told(3), k);
            DUE.is("kind " + k, x.kind(k + 1, 10, 0), k);
        }
        DUE.is("one more", x.kind(1, 1000, 2000), -4);
        DUE.is("and one more", x.kind(1, 1000, 2000), -4);
        DUE.is("told(3)", x.told(3), 4);
        DUE.is("cut(), without those refused", x.cut(), 80);
        DUE.is("canLie(3, 4)", x.canLie(3, 4), 1);
        DUE.is("canLie(4, 0)", x.canLie(4, 0), -1);
    }

    private static void kindIsFullBehindClear() {
        DUE.by("17: FULL, until THE SHEET is anew");
        BroadSheet x = new BroadSheet();
        for (int k = 0; k < 4; k++) {
            x.kind(1, 1, 0);
        }
        x.clear();
        DUE.is("behind clear()", x.kind(1, 1, 0), -4);
        x.sheet(25);
        DUE.is("behind a refused sheet", x.kind(1, 1, 0), -4);
        x.sheet(8);
        DUE.is("behind sheet(8)", x.kind(1, 1, 0), 0);
    }

    private static void kindsMayBeAlike() {
        DUE.by("17: A kind of SET: its number, also of one that is as another");
        BroadSheet x = new BroadSheet();
        DUE.is("the first", x.kind(2, 2, 2), 0);
        DUE.is("the same again", x.kind(2, 2, 2), 1);
        DUE.is("the same again", x.kind(2, 2, 2), 2);
    }

    private static void canLieRefusesKinds() {
        DUE.by("18: UNKNOWN, a SET");
        for (int kinds = 1; kinds <= 4; kinds++) {
            int n = kinds;
            new Edges(DUE, () -> withKinds(n)).refused("canLie of kind", (x, k) -> x.canLie(k, 0), 0, n - 1, -1);
            BroadSheet x = withKinds(n);
            DUE.is("canLie(0, 0) of " + n, x.canLie(0, 0), 1);
            DUE.is("canLie(last, 0) of " + n, x.canLie(n - 1, 0), 1);
        }
    }

    private static BroadSheet withKinds(int kinds) {
        BroadSheet x = new BroadSheet();
        for (int k = 0; k < kinds; k++) {
            x.kind(1, 1, 0);
        }
        return x;
    }

    private static void canLieRefusesPlaces() {
        DUE.by("18: UNKNOWN, a PLACE");
        for (int places : new int[] {2, 8, 24}) {
            Edges some = new Edges(DUE, () -> {
                BroadSheet x = Sheets.of(places);
                x.kind(1, 1, 2000);
                return x;
            });
            some.refused("canLie of PLACE", (x, place) -> x.canLie(0, place), 0, places - 1, -1);
            some.taken("canLie of PLACE", (x, place) -> x.canLie(0, place), 0, 1);
            some.taken("canLie of PLACE", (x, place) -> x.canLie(0, place), places - 1, 1);
        }
    }

    private static void canLieWithoutKinds() {
        DUE.by("18: UNKNOWN, there being no SETS");
        for (int kind : Edges.beyond(0, -1)) {
            DUE.is("canLie(" + kind + ", 0)", new BroadSheet().canLie(kind, 0), -1);
        }
        BroadSheet x = withKinds(4);
        x.sheet(8);
        DUE.is("canLie(0, 0) behind sheet(8)", x.canLie(0, 0), -1);
    }

    private static void setEndsOnTheSheet() {
        DUE.by("18: A SET can lie from a PLACE on, if it ends on THE SHEET");
        for (int places : new int[] {2, 8, 23}) {
            for (int width = 1; width <= places; width++) {
                BroadSheet x = Sheets.of(places);
                x.kind(width, 1, 2000);
                for (int p = 0; p < places; p++) {
                    DUE.is("canLie(0, " + p + "), width " + width + " of " + places, x.canLie(0, p),
                        p + width <= places ? 1 : 0);
                }
            }
        }
    }

    private static void setOfTheWidest() {
        DUE.by("18: A SET of 24 PLACES on a SHEET of 24");
        BroadSheet x = Sheets.of(24);
        x.kind(24, 1, 0);
        DUE.is("canLie(0, 0)", x.canLie(0, 0), 1);
        for (int p = 1; p < 24; p++) {
            DUE.is("canLie(0, " + p + ")", x.canLie(0, p), 0);
        }
    }

    private static void setTooWideForTheSheet() {
        DUE.by("18: 0, a SET being wider than THE SHEET");
        for (int places = 2; places < 24; places++) {
            BroadSheet x = Sheets.of(places);
            DUE.is("kind, wider than " + places, x.kind(places + 1, 1, 2000), 0);
            DUE.is("kind, as wide as " + places, x.kind(places, 1, 2000), 1);
            DUE.is("canLie(0, 0)", x.canLie(0, 0), 0);
            DUE.is("canLie(1, 0)", x.canLie(1, 0), 1);
        }
    }

    private static void errorAtTheBound() {
        DUE.by("18: the size of ERROR is not above its bound");
        BroadSheet x = Sheets.withBases(19, 20, 21, -19, -20, -21);
        x.kind(1, 1, 20);
        int[] want = {1, 1, 0, 1, 1, 0};
        for (int p = 0; p < 6; p++) {
            DUE.is("canLie(0, " + p + ")", x.canLie(0, p), want[p]);
        }
    }

    private static void errorAtEachPlaceOfTheSet() {
        DUE.by("18: of all its PLACES");
        for (int bad = 2; bad <= 4; bad++) {
            for (int error = -6; error <= 6; error += 12) {
                BroadSheet x = Sheets.of(8);
                x.kind(3, 1, 5);
                x.base(bad, error);
                for (int p = 0; p < 8; p++) {
                    boolean lies = p + 3 <= 8 && (bad < p || bad >= p + 3);
                    DUE.is("canLie(0, " + p + "), " + error + " at " + bad, x.canLie(0, p), lies ? 1 : 0);
                }
            }
        }
    }

    private static void errorBesideTheSet() {
        DUE.by("18: of all its PLACES, and no other");
        BroadSheet x = Sheets.withBases(2000, 0, 0, 2000);
        x.kind(2, 1, 0);
        DUE.is("between two faults", x.canLie(0, 1), 1);
        DUE.is("over the one ahead", x.canLie(0, 0), 0);
        DUE.is("over the one behind", x.canLie(0, 2), 0);
    }

    private static void boundOfZero() {
        DUE.by("18: the size of ERROR is not above its bound, which is 0");
        BroadSheet x = Sheets.withBases(0, 1, -1);
        x.kind(1, 1, 0);
        DUE.is("0", x.canLie(0, 0), 1);
        DUE.is("1", x.canLie(0, 1), 0);
        DUE.is("-1", x.canLie(0, 2), 0);
    }

    private static void boundOfTheMost() {
        DUE.by("18: the size of ERROR is not above its bound, which is 2000");
        BroadSheet x = Sheets.withBases(2000, 2000, -2000, -2000);
        x.spread(1, 0);
        x.set(1, 1);
        x.set(3, -1);
        x.kind(1, 1, 2000);
        int[] want = {1, 0, 1, 0};
        for (int p = 0; p < 4; p++) {
            DUE.is("canLie(0, " + p + ")", x.canLie(0, p), want[p]);
        }
    }

    private static void errorNotBaseCounts() {
        DUE.by("18: the size of ERROR");
        BroadSheet x = Sheets.withBases(100, 0, 0);
        x.kind(1, 1, 9);
        DUE.is("a base above the bound", x.canLie(0, 0), 0);
        x.set(0, -10);
        DUE.is("its setting mends it", x.canLie(0, 0), 1);
        DUE.is("the neighbour feels nothing", x.canLie(0, 1), 1);
        x.spread(10, 1);
        DUE.is("the neighbour feels 10", x.canLie(0, 1), 0);
        x.kind(1, 1, 10);
        DUE.is("10 is not above 10", x.canLie(1, 1), 1);
    }

    private static void cutOfNoKinds() {
        DUE.by("19: THE CUT: its price, there being no SETS");
        for (int places : new int[] {2, 8, 24}) {
            BroadSheet x = Sheets.of(places);
            DUE.is("cut() of " + places, x.cut(), 0);
            DUE.is("cutAt(last) of " + places, x.cutAt(places - 1), -6);
        }
    }

    private static void cutWhereNoneCanLie() {
        DUE.by("19: THE CUT: its price, no SET being able to lie");
        BroadSheet x = Sheets.withBases(1, -1, 1);
        x.kind(1, 1000, 0);
        cutIs("above the bound", x, 0, -6, -6, -6);
        x = Sheets.of(2);
        x.kind(3, 1000, 2000);
        cutIs("too wide", x, 0, -6, -6);
        x = Sheets.of(2);
        x.kind(0, 1000, 2000);
        cutIs("refused", x, 0, -6, -6);
    }

    private static void cutOfTheLeast() {
        DUE.by("19: with the greatest price together, 1 being more than none");
        BroadSheet x = Sheets.withBases(1, 1, 0);
        x.kind(1, 1, 0);
        cutIs("one at the last place", x, 1, -6, -6, 0);
        x = Sheets.of(2);
        x.kind(2, 1, 0);
        cutIs("one over all", x, 1, 0, -6);
    }

    private static void cutOfTheMost() {
        DUE.by("19: with the greatest price together, 24 times 1000");
        BroadSheet x = Sheets.of(24);
        x.kind(24, 1000, 2000);
        DUE.is("one over all", x.cut(), 1000);
        x.kind(1, 1000, 2000);
        DUE.is("24 side by side", x.cut(), 24000);
        for (int p = 0; p < 24; p++) {
            DUE.is("cutAt(" + p + ")", x.cutAt(p), 1);
        }
    }

    private static void cutOfSetsSideBySide() {
        DUE.by("19: SETS side by side, none over another");
        BroadSheet x = Sheets.of(5);
        x.kind(3, 10, 0);
        cutIs("three and three do not go into five", x, 10, 0, -6, -6, -6, -6);
        x.sheet(6);
        x.kind(3, 10, 0);
        cutIs("they go into six", x, 20, 0, -6, -6, 0, -6, -6);
    }

    private static void cutOfAsManyAsOneLikes() {
        DUE.by("19: of any kinds, as many as one likes");
        BroadSheet x = Sheets.of(7);
        x.kind(2, 5, 0);
        x.kind(3, 8, 0);
        cutIs("two of one and one of the other", x, 18, 0, -6, 0, -6, 1, -6, -6);
    }

    private static void cutOfGreatestPriceNotMostSets() {
        DUE.by("19: with the greatest price together");
        BroadSheet x = Sheets.of(4);
        x.kind(1, 1, 0);
        x.kind(4, 5, 0);
        cutIs("one of 5 is more than four of 1", x, 5, 1, -6, -6, -6);
        x.kind(3, 5, 0);
        cutIs("5 and 1 are more", x, 6, 0, 2, -6, -6);
    }

    private static void cutAtRefusesPlaces() {
        DUE.by("20: UNKNOWN");
        for (int places : new int[] {2, 8, 24}) {
            Edges some = new Edges(DUE, () -> {
                BroadSheet x = Sheets.of(places);
                x.kind(1, 1, 2000);
                return x;
            });
            some.refused("cutAt", BroadSheet::cutAt, 0, places - 1, -1);
            some.taken("cutAt", BroadSheet::cutAt, 0, 0);
            some.taken("cutAt", BroadSheet::cutAt, places - 1, 0);
        }
        NEW.refused("cutAt, there being no SETS", BroadSheet::cutAt, 0, 7, -1);
    }

    private static void cutAtBeginningsAlone() {
        DUE.by("20: The kind that begins at a PLACE; NONE");
        BroadSheet x = Sheets.of(24);
        x.kind(24, 1000, 0);
        x.kind(1, 1, 0);
        DUE.is("cutAt(0)", x.cutAt(0), 0);
        for (int p = 1; p < 24; p++) {
            DUE.is("cutAt(" + p + "), under a SET", x.cutAt(p), -6);
        }
    }

    private static void cutAtTheLastPlace() {
        DUE.by("20: The kind that begins at a PLACE, the last one");
        for (int places : new int[] {2, 8, 24}) {
            BroadSheet x = Sheets.of(places);
            x.kind(places - 1, 3, 0);
            x.kind(1, 1, 0);
            int price = places == 2 ? 6 : Math.max(4, places);
            DUE.is("cut() of " + places, x.cut(), price);
            DUE.is("cutAt(last) of " + places, x.cutAt(places - 1), places == 2 ? 0 : 1);
        }
    }

    private static void cutAtPrefersASetToNone() {
        DUE.by("20: at the first PLACE at which they differ a SET that begins there rather than none");
        BroadSheet x = Sheets.of(3);
        x.kind(3, 4, 0);
        x.base(0, 1);
        x.kind(2, 4, 0);
        cutIs("only from 1 on", x, 4, -6, 1, -6);
        x.base(0, 0);
        cutIs("from 0 on, the lesser kind", x, 4, 0, -6, -6);
        x = Sheets.of(4);
        x.kind(3, 7, 0);
        x.kind(2, 7, 0);
        x.kind(1, 7, 0);
        x.base(1, 1);
        cutIs("one, none, one, one", x, 21, 2, -6, 2, 2);
    }

    private static void cutAtPrefersTheLesserKind() {
        DUE.by("20: and then the lesser kind");
        BroadSheet x = Sheets.of(2);
        for (int k = 0; k < 4; k++) {
            x.kind(1, 9, 0);
        }
        cutIs("all alike", x, 18, 0, 0);
        x = Sheets.of(2);
        x.kind(1, 9, 0);
        x.kind(1, 9, 5);
        x.base(0, 3);
        cutIs("the lesser cannot lie at 0", x, 18, 1, 0);
        x = Sheets.of(2);
        x.kind(1, 8, 0);
        x.kind(1, 9, 0);
        cutIs("the greater is worth more", x, 18, 1, 1);
        x = Sheets.of(2);
        x.kind(2, 2, 0);
        x.kind(1, 1, 0);
        cutIs("a wide one of a lesser kind", x, 2, 0, -6);
        x = Sheets.of(2);
        x.kind(1, 1, 0);
        x.kind(2, 2, 0);
        cutIs("narrow ones of a lesser kind", x, 2, 0, 0);
    }

    private static void cutAtLooksAtTheFirstDifference() {
        DUE.by("20: at the first PLACE at which they differ");
        BroadSheet x = Sheets.of(3);
        x.kind(2, 2, 0);
        x.kind(1, 1, 0);
        cutIs("0 first, though 1 behind it", x, 3, 0, -6, 1);
        x = Sheets.of(5);
        x.kind(3, 3, 0);
        x.kind(2, 2, 0);
        cutIs("3 and 2 rather than 2 and 3", x, 5, 0, -6, -6, 1, -6);
        x = Sheets.of(5);
        x.kind(2, 2, 0);
        x.kind(3, 3, 0);
        cutIs("2 and 3 rather than 3 and 2", x, 5, 0, -6, 1, -6, -6);
        x = Sheets.of(3);
        x.kind(1, 5, 0);
        x.kind(2, 5, 0);
        x.base(1, 1);
        x.kind(2, 5, 1);
        cutIs("at 0 and at 1, rather than at 2", x, 10, 0, 2, -6);
        x.base(0, 1);
        cutIs("at 0 over 1, and at 2", x, 10, 2, -6, 0);
    }

    private static void cutAtNeedsNoCutAhead() {
        DUE.by("20: in THE CUT, as all is now");
        BroadSheet x = Sheets.of(2);
        x.kind(1, 1, 0);
        DUE.is("without cut()", x.cutAt(1), 0);
        x.cut();
        x.base(1, 5);
        DUE.is("behind base(1, 5)", x.cutAt(1), -6);
        x.cut();
        x.spread(5, 0);
        x.set(1, -1);
        DUE.is("behind set(1, -1)", x.cutAt(1), 0);
        x.cut();
        x.kind(2, 3, 0);
        DUE.is("behind kind(2, 3, 0)", x.cutAt(1), -6);
        x.cut();
        x.spread(6, 0);
        DUE.is("behind spread(6, 0)", x.cutAt(1), -6);
        DUE.is("behind spread(6, 0)", x.cutAt(0), 0);
    }

    private static void cutChangesNothing() {
        DUE.by("19: THE CUT: its price, as often as one asks");
        BroadSheet x = Sheets.busy();
        int price = x.cut();
        for (int p = 0; p < 5; p++) {
            int at = x.cutAt(p);
            DUE.is("cut() again", x.cut(), price);
            DUE.is("cutAt(" + p + ") again", x.cutAt(p), at);
        }
        DUE.is("told(3)", x.told(3), 3);
    }
}
