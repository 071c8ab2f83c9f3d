/** Promises 3 to 9 (read, reading, across, along, groups, take, clear) at their edges, a sentence at a time. */
final class EyeEdgesTest {
    private static final Due DUE = new Due("EyeEdgesTest");
    private static final Edges NEW = new Edges(DUE, BroadSheet::new);

    public static void main(String[] args) {
        readTakesTimes();
        readRefusesTimes();
        readTakesPlaces();
        readRefusesPlaces();
        readTakesValues();
        readRefusesValues();
        readIsFullBehindHundred();
        readIsFullByOddOnes();
        readHasRoomBehindClear();
        firstReadingFits();
        sameReadingFits();
        readingOffByOneIsOdd();
        longestRoundFits();
        fittingValueMayBeBeyond();
        oddReadingBindsNothing();
        readingNumbersAreFromZeroOn();
        readingRefusesNumbers();
        readingOfNothing();
        readingRefusesWhats();
        readingTellsTheLeastAndTheMost();
        acrossOfPlaceZero();
        acrossRefusesPlaces();
        acrossApartFromPlaceZero();
        acrossByOddOnesIsNone();
        acrossOfTheLastPlace();
        acrossOfTheMost();
        alongTakesTimes();
        alongRefusesTimes();
        alongOfTheSameTime();
        alongApart();
        alongOfTheMost();
        groupsOfNothing();
        groupsOfOne();
        groupsOfManyTimes();
        groupsByOddOnes();
        takeOfTheMost();
        takeOfAllPlaces();
        takeBeyond();
        takeOfNothing();
        takeWhereOneHasNone();
        takeWhereOddOnesWouldGiveIt();
        takeOfPlaceZero();
        takeLeavesReadings();
        clearOfNothing();
        clearOfOneAndAll();
        clearNumbersAnew();
        clearLeavesNothingTogether();
        clearLeavesNoReadingToFit();
        clearLeavesAllElse();
        DUE.end();
    }

    private static void readTakesTimes() {
        DUE.by("3: a TIME (0 to 39)");
        for (int t = 0; t < 40; t++) {
            NEW.taken("read of TIME", (x, time) -> x.read(time, 0, 0), t, 1, x -> x.reading(0, 0));
        }
    }

    private static void readRefusesTimes() {
        DUE.by("3: OUTSIDE, a TIME");
        NEW.refused("read of TIME", (x, time) -> x.read(time, 0, 0), 0, 39, -2);
    }

    private static void readTakesPlaces() {
        DUE.by("3: a PLACE, of 2 to 24 from 0 on");
        for (int places : new int[] {2, 8, 24}) {
            Edges some = new Edges(DUE, () -> Sheets.of(places));
            for (int p = 0; p < places; p++) {
                some.taken("read of PLACE", (x, place) -> x.read(0, place, 0), p, 1, x -> x.reading(0, 1));
            }
        }
    }

    private static void readRefusesPlaces() {
        DUE.by("3: UNKNOWN");
        for (int places : new int[] {2, 8, 24}) {
            new Edges(DUE, () -> Sheets.of(places))
                .refused("read of PLACE", (x, place) -> x.read(0, place, 0), 0, places - 1, -1);
        }
    }

    private static void readTakesValues() {
        DUE.by("3: a value (-1000 to 1000)");
        for (int v : new int[] {-1000, -999, -1, 0, 1, 999, 1000}) {
            NEW.taken("read of value", (x, value) -> x.read(0, 0, value), v, 1, x -> x.reading(0, 2));
        }
    }

    private static void readRefusesValues() {
        DUE.by("3: OUTSIDE, a value");
        NEW.refused("read of value", (x, value) -> x.read(0, 0, value), -1000, 1000, -2);
    }

    private static void readIsFullBehindHundred() {
        DUE.by("3: READINGS, 100 at most; FULL");
        BroadSheet x = Sheets.of(24);
        for (int i = 0; i < 100; i++) {
            DUE.is("reading " + i, x.read(i % 40, i % 24, 0), 1);
            DUE.is("told(1) behind it", x.told(1), i + 1);
        }
        DUE.is("one more, as one ahead of it", x.read(0, 0, 0), -4);
        DUE.is("one more, that would be odd", x.read(0, 0, 1), -4);
        DUE.is("told(1)", x.told(1), 100);
        DUE.is("reading(99, 0)", x.reading(99, 0), 19);
        DUE.is("reading(100, 0)", x.reading(100, 0), -1000001);
    }

    private static void readIsFullByOddOnes() {
        DUE.by("3: FULL, odd ones among the 100");
        BroadSheet x = new BroadSheet();
        x.read(0, 0, 0);
        for (int i = 1; i < 100; i++) {
            DUE.is("odd reading " + i, x.read(0, 0, 1), 0);
        }
        DUE.is("one more, that would fit", x.read(0, 1, 5), -4);
        DUE.is("across(1)", x.across(1), -1000005);
        DUE.is("told(2)", x.told(2), 1);
    }

    private static void readHasRoomBehindClear() {
        DUE.by("3: 100 at most, of those that are there");
        BroadSheet x = Sheets.withAllReadings();
        x.clear();
        for (int i = 0; i < 100; i++) {
            DUE.is("reading " + i + " behind clear()", x.read(i % 40, 1, 3), 1);
        }
        DUE.is("one more", x.read(0, 1, 3), -4);
    }

    private static void firstReadingFits() {
        DUE.by("3: 1 it FITS, nothing being ahead of it");
        BroadSheet x = Sheets.of(24);
        DUE.is("the least", x.read(39, 23, -1000), 1);
        DUE.is("the same PLACE at another TIME", x.read(38, 23, 1000), 1);
        DUE.is("the same TIME at another PLACE", x.read(39, 22, 1000), 1);
        DUE.is("neither of them", x.read(0, 0, 1000), 1);
        DUE.is("two groups joined", x.read(0, 22, -1000), 1);
    }

    private static void sameReadingFits() {
        DUE.by("3: each READING ahead that FITS, and it");
        BroadSheet x = new BroadSheet();
        for (int n = 0; n < 3; n++) {
            DUE.is("the same, time " + n, x.read(4, 5, -600), 1);
        }
        DUE.is("told(1)", x.told(1), 3);
        DUE.is("told(2)", x.told(2), 3);
    }

    private static void readingOffByOneIsOdd() {
        DUE.by("3: 0 it is ODD");
        BroadSheet x = new BroadSheet();
        x.read(0, 0, 10);
        x.read(0, 1, 30);
        x.read(1, 0, -5);
        DUE.is("one less than the other one there", x.read(0, 0, 9), 0);
        DUE.is("one more than the other one there", x.read(0, 0, 11), 0);
        DUE.is("one less round the net", x.read(1, 1, 14), 0);
        DUE.is("one more round the net", x.read(1, 1, 16), 0);
        DUE.is("the other sign", x.read(1, 1, -15), 0);
        DUE.is("just so", x.read(1, 1, 15), 1);
    }

    private static void longestRoundFits() {
        DUE.by("3: A READING FITS, if there are numbers, round all PLACES");
        for (int off = -1; off <= 1; off++) {
            BroadSheet x = Sheets.of(24);
            for (int p = 0; p < 23; p++) {
                x.read(p, p, -3);
                x.read(p, p + 1, 40);
            }
            x.read(39, 23, 1000);
            DUE.is("off by " + off, x.read(39, 0, 1000 - 23 * 43 + off), off == 0 ? 1 : 0);
        }
    }

    private static void fittingValueMayBeBeyond() {
        DUE.by("3: else it is ODD, also where no value from -1000 to 1000 would fit");
        BroadSheet x = Sheets.withAcross(0, 2000);
        DUE.is("read(9, 0, 0)", x.read(9, 0, 0), 1);
        DUE.is("read(9, 1, 1000)", x.read(9, 1, 1000), 0);
        DUE.is("read(9, 1, -1000)", x.read(9, 1, -1000), 0);
        DUE.is("read(9, 1, 2000)", x.read(9, 1, 2000), -2);
    }

    private static void oddReadingBindsNothing() {
        DUE.by("3: ODD, and counts no more");
        BroadSheet x = new BroadSheet();
        x.read(0, 0, 0);
        x.read(0, 0, 7);
        DUE.is("another TIME", x.read(1, 0, 0), 1);
        DUE.is("the odd one again", x.read(0, 0, 7), 0);
        DUE.is("what it was at odds with", x.read(0, 0, 0), 1);
        DUE.is("another PLACE", x.read(0, 1, 7), 1);
        DUE.is("across(1), by those that fit", x.across(1), 7);
        DUE.is("along(1, 0)", x.along(1, 0), 0);
        DUE.is("told(2)", x.told(2), 4);
    }

    private static void readingNumbersAreFromZeroOn() {
        DUE.by("4: numbered from 0 on as they were told");
        for (int what = 0; what <= 3; what++) {
            BroadSheet x = Sheets.withAllReadings();
            for (int i = 0; i < 100; i++) {
                int[] want = {i % 40, 0, i, i < 40 ? 1 : 0};
                DUE.is("reading(" + i + ", " + what + ")", x.reading(i, what), want[what]);
            }
        }
    }

    private static void readingRefusesNumbers() {
        DUE.by("4: UNKNOWN: LOST less 1");
        for (int what = 0; what <= 3; what++) {
            int w = what;
            new Edges(DUE, Sheets::withAllReadings)
                .refused("reading of " + w, (x, i) -> x.reading(i, w), 0, 99, -1000001);
            new Edges(DUE, Sheets::busy).refused("reading of " + w, (x, i) -> x.reading(i, w), 0, 5, -1000001);
        }
    }

    private static void readingOfNothing() {
        DUE.by("4: UNKNOWN, there being no READINGS");
        NEW.refused("reading", (x, i) -> x.reading(i, 0), 0, -1, -1000001);
        BroadSheet x = Sheets.busy();
        x.clear();
        DUE.is("reading(0, 0) behind clear()", x.reading(0, 0), -1000001);
        x.read(0, 99, 0);
        x.read(40, 0, 0);
        DUE.is("reading(0, 0) behind refused ones", x.reading(0, 0), -1000001);
    }

    private static void readingRefusesWhats() {
        DUE.by("4: OUTSIDE: LOST less 2");
        new Edges(DUE, Sheets::busy).refused("reading(0, what)", (x, what) -> x.reading(0, what), 0, 3, -1000002);
        new Edges(DUE, Sheets::busy).refused("reading(5, what)", (x, what) -> x.reading(5, what), 0, 3, -1000002);
    }

    private static void readingTellsTheLeastAndTheMost() {
        DUE.by("4: Of a READING: 0 TIME, 1 PLACE, 2 value, 3 whether it FITS");
        BroadSheet x = Sheets.of(24);
        int[][] told = {{0, 0, -1000, 1}, {39, 23, 1000, 1}, {39, 23, -1000, 0}, {0, 0, 1000, 0}};
        for (int[] r : told) {
            x.read(r[0], r[1], r[2]);
        }
        for (int i = 0; i < told.length; i++) {
            for (int what = 0; what <= 3; what++) {
                DUE.is("reading(" + i + ", " + what + ")", x.reading(i, what), told[i][what]);
            }
        }
    }

    private static void acrossOfPlaceZero() {
        DUE.by("5: ACROSS (0 of PLACE 0)");
        BroadSheet x = new BroadSheet();
        DUE.is("nothing read", x.across(0), 0);
        x.read(0, 0, 77);
        DUE.is("read once", x.across(0), 0);
        x.read(0, 1, -300);
        x.read(1, 1, 500);
        x.read(1, 0, 0);
        DUE.is("hanging together with another, one odd", x.across(0), 0);
        x.clear();
        DUE.is("behind clear()", x.across(0), 0);
    }

    private static void acrossRefusesPlaces() {
        DUE.by("5: UNKNOWN: LOST less 1");
        for (int places : new int[] {2, 8, 24}) {
            new Edges(DUE, () -> Sheets.of(places)).refused("across", BroadSheet::across, 0, places - 1, -1000001);
        }
    }

    private static void acrossApartFromPlaceZero() {
        DUE.by("5: NO, LOST less 5: it does not hang together with PLACE 0");
        BroadSheet x = Sheets.of(3);
        DUE.is("never read", x.across(2), -1000005);
        x.read(0, 1, 4);
        x.read(0, 2, 9);
        DUE.is("with PLACE 1 alone", x.across(2), -1000005);
        x.read(1, 0, 0);
        DUE.is("PLACE 0 read at another TIME", x.across(2), -1000005);
        x.read(1, 1, 0);
        DUE.is("with PLACE 0 through PLACE 1", x.across(2), 5);
    }

    private static void acrossByOddOnesIsNone() {
        DUE.by("5: PLACES and TIMES hang together by READINGS that FIT");
        BroadSheet x = Sheets.of(4);
        x.read(0, 0, 0);
        x.read(0, 0, 1);
        x.read(1, 1, 0);
        x.read(1, 1, 1);
        DUE.is("across(1)", x.across(1), -1000005);
        x.read(0, 1, -8);
        DUE.is("across(1), joined behind odd ones", x.across(1), -8);
        x.read(1, 0, 5);
        DUE.is("across(1), an odd one behind", x.across(1), -8);
    }

    private static void acrossOfTheLastPlace() {
        DUE.by("5: ACROSS of a PLACE, the last one");
        for (int places : new int[] {2, 8, 24}) {
            BroadSheet x = Sheets.of(places);
            x.read(0, 0, 1);
            x.read(0, places - 1, -1);
            DUE.is("across(" + (places - 1) + ")", x.across(places - 1), -2);
        }
    }

    private static void acrossOfTheMost() {
        DUE.by("5: ACROSS is told as what it is more than that of PLACE 0, however much");
        for (int sign = -1; sign <= 1; sign += 2) {
            BroadSheet x = Sheets.of(24);
            for (int p = 0; p < 23; p++) {
                x.read(p, p, -1000 * sign);
                x.read(p, p + 1, 1000 * sign);
            }
            for (int p = 0; p < 24; p++) {
                DUE.is("across(" + p + ")", x.across(p), 2000 * p * sign);
            }
        }
    }

    private static void alongTakesTimes() {
        DUE.by("6: What ALONG of a TIME is more than that of another one, from TIME 0 to 39");
        BroadSheet x = new BroadSheet();
        for (int t = 0; t < 40; t++) {
            x.read(t, 3, 10 * t);
        }
        for (int t = 0; t < 40; t++) {
            DUE.is("along(" + t + ", 0)", x.along(t, 0), 10 * t);
            DUE.is("along(0, " + t + ")", x.along(0, t), -10 * t);
            DUE.is("along(" + t + ", 39)", x.along(t, 39), 10 * t - 390);
        }
    }

    private static void alongRefusesTimes() {
        DUE.by("6: UNKNOWN: LOST less 1: no such TIME");
        Edges some = new Edges(DUE, Sheets::busy);
        some.refused("along(time, 3)", (x, time) -> x.along(time, 3), 0, 39, -1000001);
        some.refused("along(3, other)", (x, other) -> x.along(3, other), 0, 39, -1000001);
        some.refused("along(time, time)", (x, time) -> x.along(time, time), 0, 39, -1000001);
    }

    private static void alongOfTheSameTime() {
        DUE.by("6: of one and the same TIME 0");
        BroadSheet x = new BroadSheet();
        for (int t = 0; t < 40; t++) {
            DUE.is("along(" + t + ", " + t + "), never read", x.along(t, t), 0);
        }
        x.read(0, 0, 500);
        x.read(39, 1, -500);
        DUE.is("along(0, 0), read", x.along(0, 0), 0);
        DUE.is("along(39, 39), read", x.along(39, 39), 0);
    }

    private static void alongApart() {
        DUE.by("6: NO, LOST less 5: they do not hang together");
        BroadSheet x = new BroadSheet();
        DUE.is("neither read", x.along(0, 39), -1000005);
        x.read(0, 0, 1);
        DUE.is("one read", x.along(0, 39), -1000005);
        x.read(39, 1, 5);
        DUE.is("both read, at two PLACES", x.along(0, 39), -1000005);
        x.read(0, 0, 2);
        DUE.is("an odd one more", x.along(39, 0), -1000005);
        x.read(39, 0, 5);
        DUE.is("both read at one PLACE", x.along(39, 0), 4);
    }

    private static void alongOfTheMost() {
        DUE.by("6: What ALONG of a TIME is more, however much");
        BroadSheet x = Sheets.of(24);
        for (int p = 0; p < 24; p++) {
            x.read(p, p, -1000);
            x.read(p + 1, p, 1000);
        }
        DUE.is("along(24, 0)", x.along(24, 0), 48000);
        DUE.is("along(0, 24)", x.along(0, 24), -48000);
    }

    private static void groupsOfNothing() {
        DUE.by("7: How many groups of PLACES hang together, nothing being read");
        for (int places : new int[] {2, 8, 24}) {
            DUE.is("groups() of " + places, Sheets.of(places).groups(), places);
        }
        BroadSheet x = Sheets.of(2);
        x.read(0, 0, 0);
        x.read(1, 1, 0);
        DUE.is("each read alone", x.groups(), 2);
    }

    private static void groupsOfOne() {
        DUE.by("7: How many groups of PLACES hang together, all in one");
        for (int places : new int[] {2, 8, 24}) {
            BroadSheet x = Sheets.of(places);
            for (int p = places - 1; p >= 0; p--) {
                DUE.is("groups() with " + (places - p - 1), x.groups(), Math.min(places, p + 2));
                x.read(17, p, p);
            }
            DUE.is("groups() with all", x.groups(), 1);
        }
    }

    private static void groupsOfManyTimes() {
        DUE.by("7: groups of PLACES, TIMES being none");
        BroadSheet x = Sheets.of(2);
        for (int t = 0; t < 40; t++) {
            x.read(t, t % 2, 0);
        }
        DUE.is("two PLACES at twenty TIMES each", x.groups(), 2);
        x.read(0, 1, 0);
        DUE.is("joined at one TIME", x.groups(), 1);
    }

    private static void groupsByOddOnes() {
        DUE.by("7: hang together by READINGS that FIT");
        BroadSheet x = Sheets.of(2);
        x.read(0, 0, 0);
        x.read(0, 0, 1);
        x.read(1, 1, 0);
        x.read(1, 1, 1);
        DUE.is("groups()", x.groups(), 2);
        x.read(40, 1, 0);
        x.read(0, 1, 1001);
        DUE.is("groups() behind refused ones", x.groups(), 2);
    }

    private static void takeOfTheMost() {
        DUE.by("8: BASES become ACROSS of their PLACES: 1, 2000 in size being not beyond");
        for (int across : new int[] {-2000, -1999, -1, 0, 1, 1999, 2000}) {
            BroadSheet x = Sheets.withAcross(0, across);
            x.base(1, 5);
            DUE.is("take() of " + across, x.take(), 1);
            DUE.is("about(1, 1)", x.about(1, 1), across);
            DUE.is("about(1, 2)", x.about(1, 2), across);
        }
        BroadSheet x = Sheets.withAcross(0, -2000, -1, 2, 2000);
        DUE.is("take() of five", x.take(), 1);
        int[] want = {0, -2000, -1, 2, 2000};
        for (int p = 0; p < 5; p++) {
            DUE.is("about(" + p + ", 1)", x.about(p, 1), want[p]);
        }
    }

    private static void takeOfAllPlaces() {
        DUE.by("8: BASES become ACROSS of their PLACES, as many as there can be");
        for (int places : new int[] {2, 8, 24}) {
            BroadSheet x = Sheets.of(places);
            for (int p = 0; p < places; p++) {
                x.read(39, p, 1000 - 86 * p);
            }
            DUE.is("take() of " + places, x.take(), 1);
            for (int p = 0; p < places; p++) {
                DUE.is("about(" + p + ", 1) of " + places, x.about(p, 1), -86 * p);
            }
        }
    }

    private static void takeBeyond() {
        DUE.by("8: NO: it is beyond 2000 in size");
        for (int across : new int[] {-4000, -2001, 2001, 4000}) {
            BroadSheet last = Sheets.withAcross(0, across / 2, across);
            DUE.is("take(), " + across + " at the last PLACE", last.take(), -5);
            BroadSheet middle = Sheets.withAcross(0, across / 2, across, across / 2);
            DUE.is("take(), " + across + " in the middle", middle.take(), -5);
            for (int p = 0; p < 3; p++) {
                DUE.is("about(" + p + ", 1), which stays", last.about(p, 1), 0);
                DUE.is("about(" + p + ", 1), which stays", middle.about(p, 1), 0);
            }
        }
    }

    private static void takeOfNothing() {
        DUE.by("8: NO: one has none, nothing being read");
        for (int places : new int[] {2, 8, 24}) {
            DUE.is("take() of " + places, Sheets.of(places).take(), -5);
        }
    }

    private static void takeWhereOneHasNone() {
        DUE.by("8: NO: one has none");
        for (int none = 1; none < 5; none++) {
            BroadSheet x = Sheets.withBases(9, 9, 9, 9, 9);
            for (int p = 0; p < 5; p++) {
                x.read(p == none ? 1 : 0, p, 3 * p);
            }
            DUE.is("take() without PLACE " + none, x.take(), -5);
            for (int p = 0; p < 5; p++) {
                DUE.is("about(" + p + ", 1), which stays", x.about(p, 1), 9);
            }
            x.read(0, none, 0);
            DUE.is("take() with PLACE " + none, x.take(), 1);
        }
        BroadSheet x = Sheets.of(3);
        x.read(0, 1, 4);
        x.read(0, 2, 4);
        DUE.is("take(), PLACE 0 being apart", x.take(), -5);
    }

    private static void takeWhereOddOnesWouldGiveIt() {
        DUE.by("8: NO: one has none, an ODD READING counting no more");
        BroadSheet x = Sheets.of(2);
        x.read(0, 0, 0);
        x.read(0, 0, 5);
        x.read(1, 1, 5);
        x.read(1, 1, 6);
        DUE.is("take()", x.take(), -5);
    }

    private static void takeOfPlaceZero() {
        DUE.by("8: BASES become ACROSS of their PLACES (0 of PLACE 0)");
        BroadSheet x = Sheets.withBases(2000, -2000);
        x.read(0, 0, -7);
        x.read(0, 1, -7);
        DUE.is("take()", x.take(), 1);
        DUE.is("about(0, 1)", x.about(0, 1), 0);
        DUE.is("about(1, 1)", x.about(1, 1), 0);
    }

    private static void takeLeavesReadings() {
        DUE.by("8: BASES become ACROSS, and nothing else changes");
        BroadSheet x = Sheets.withAcross(0, 50);
        x.set(0, 4);
        x.set(1, -3);
        DUE.is("take()", x.take(), 1);
        DUE.is("told(1)", x.told(1), 2);
        DUE.is("across(1)", x.across(1), 50);
        DUE.is("about(0, 0)", x.about(0, 0), 4);
        DUE.is("about(1, 2)", x.about(1, 2), 20);
        x.base(1, 7);
        DUE.is("take() again", x.take(), 1);
        DUE.is("about(1, 1)", x.about(1, 1), 50);
    }

    private static void clearOfNothing() {
        DUE.by("9: how many there were, none");
        BroadSheet x = new BroadSheet();
        DUE.is("clear()", x.clear(), 0);
        DUE.is("clear() again", x.clear(), 0);
        x.read(0, 8, 0);
        DUE.is("clear() behind a refused reading", x.clear(), 0);
    }

    private static void clearOfOneAndAll() {
        DUE.by("9: READINGS are taken away: how many there were");
        BroadSheet x = new BroadSheet();
        x.read(0, 0, 0);
        DUE.is("clear() of one", x.clear(), 1);
        DUE.is("clear() behind it", x.clear(), 0);
        x = Sheets.withAllReadings();
        x.read(0, 0, 0);
        DUE.is("clear() of 100 and a refused one", x.clear(), 100);
        DUE.is("told(1)", x.told(1), 0);
        DUE.is("told(2)", x.told(2), 0);
    }

    private static void clearNumbersAnew() {
        DUE.by("9: READINGS are taken away; numbered from 0 on");
        BroadSheet x = Sheets.withAllReadings();
        x.clear();
        x.read(5, 6, 7);
        DUE.is("reading(0, 0)", x.reading(0, 0), 5);
        DUE.is("reading(0, 1)", x.reading(0, 1), 6);
        DUE.is("reading(0, 2)", x.reading(0, 2), 7);
        DUE.is("reading(0, 3)", x.reading(0, 3), 1);
        DUE.is("reading(1, 0)", x.reading(1, 0), -1000001);
        DUE.is("told(2)", x.told(2), 1);
    }

    private static void clearLeavesNothingTogether() {
        DUE.by("9: READINGS are taken away, and what hung together by them");
        BroadSheet x = Sheets.of(24);
        for (int p = 0; p < 24; p++) {
            x.read(0, p, 2 * p);
            x.read(p + 1, 0, p);
        }
        x.clear();
        DUE.is("groups()", x.groups(), 24);
        for (int p = 1; p < 24; p++) {
            DUE.is("across(" + p + ")", x.across(p), -1000005);
            DUE.is("along(" + p + ", 0)", x.along(p, 0), -1000005);
        }
        DUE.is("what would have been odd", x.read(0, 23, -1), 1);
        DUE.is("and with another", x.read(0, 0, 1), 1);
        DUE.is("across(23)", x.across(23), -2);
    }

    private static void clearLeavesNoReadingToFit() {
        DUE.by("9: READINGS are taken away: what was told ahead binds no more");
        for (int p = 0; p < 24; p++) {
            BroadSheet x = Sheets.of(24);
            for (int t = 0; t < 40; t++) {
                x.read(t, p, t);
            }
            DUE.is("read(39, " + p + ", 0), ahead of clear()", x.read(39, p, 0), 0);
            x.clear();
            for (int t = 39; t >= 0; t--) {
                DUE.is("read(" + t + ", " + p + ", " + -t + "), behind clear()", x.read(t, p, -t), 1);
            }
            DUE.is("along(39, 0)", x.along(39, 0), -39);
        }
    }

    private static void clearLeavesAllElse() {
        DUE.by("9: READINGS are taken away, and nothing else");
        BroadSheet x = Sheets.busy();
        BroadSheet y = Sheets.busy();
        DUE.is("clear()", x.clear(), 6);
        for (int what = 0; what <= 8; what++) {
            DUE.is("told(" + what + ")", x.told(what), what == 1 || what == 2 ? 0 : y.told(what));
        }
        for (int p = 0; p < 5; p++) {
            for (int what = 0; what <= 2; what++) {
                DUE.is("about(" + p + ", " + what + ")", x.about(p, what), y.about(p, what));
            }
            DUE.is("cutAt(" + p + ")", x.cutAt(p), y.cutAt(p));
        }
        DUE.is("tour(0)", x.tour(0), y.tour(0));
    }
}
