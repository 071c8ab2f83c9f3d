/** Sheets that several tests begin with. */
final class Sheets {
    private Sheets() {
    }

    static BroadSheet of(int places) {
        BroadSheet x = new BroadSheet();
        x.sheet(places);
        return x;
    }

    static BroadSheet withBases(int... bases) {
        BroadSheet x = of(bases.length);
        for (int p = 0; p < bases.length; p++) {
            x.base(p, bases[p]);
        }
        return x;
    }

    static BroadSheet withSettings(int... settings) {
        BroadSheet x = of(settings.length);
        for (int p = 0; p < settings.length; p++) {
            x.set(p, settings[p]);
        }
        return x;
    }

    static BroadSheet withGrades(int grades) {
        BroadSheet x = new BroadSheet();
        for (int g = 0; g < grades; g++) {
            x.grade();
        }
        return x;
    }

    /** ACROSS of each PLACE as told, that of PLACE 0 being 0; of two neighbours it differs by 2000 at most. */
    static BroadSheet withAcross(int... across) {
        BroadSheet x = of(across.length);
        for (int p = 1; p < across.length; p++) {
            int step = across[p] - across[p - 1];
            x.read(p - 1, p - 1, -(step / 2));
            x.read(p - 1, p, step - step / 2);
        }
        return x;
    }

    /** As many READINGS as there can be, all of them at PLACE 0, of which the first 40 FIT. */
    static BroadSheet withAllReadings() {
        BroadSheet x = new BroadSheet();
        for (int i = 0; i < 100; i++) {
            x.read(i % 40, 0, i);
        }
        return x;
    }

    /** Something of everything: PLACE 3 never read, PLACE 4 apart, an ODD READING, SETTINGS close to LAWS. */
    static BroadSheet busy() {
        BroadSheet x = withBases(37, -80, 55, 120, -20);
        int[][] readings = {{3, 0, 10}, {3, 1, 25}, {3, 1, 26}, {9, 1, -4}, {9, 2, -40}, {20, 4, 7}};
        for (int[] r : readings) {
            x.read(r[0], r[1], r[2]);
        }
        int[] settings = {3, -1, 2, 0, 5};
        for (int p = 0; p < settings.length; p++) {
            x.set(p, settings[p]);
        }
        x.laws(6, 8);
        x.spread(7, -2);
        x.kind(2, 5, 60);
        x.kind(1, 2, 90);
        x.kind(5, 9, 2000);
        for (int g = 0; g < 3; g++) {
            x.grade();
        }
        x.cost(0, 1, 5);
        x.cost(1, 2, 6);
        x.cost(2, 0, 7);
        x.cost(1, 0, 900);
        return x;
    }

    /** As many of everything as there can be, some READINGS ODD, all PLACES together. */
    static BroadSheet full() {
        BroadSheet x = of(24);
        for (int i = 0; i < 100; i++) {
            x.read(i * 7 % 40, i % 24, i % 9 - 4);
        }
        for (int p = 0; p < 24; p++) {
            x.base(p, p * 37 % 90 - 45);
        }
        x.set(0, 3);
        x.set(23, -10);
        x.laws(10, 20);
        x.spread(20, 5);
        x.kind(1, 3, 40);
        x.kind(3, 10, 45);
        x.kind(24, 1000, 40);
        x.kind(2, 7, 2000);
        for (int g = 0; g < 9; g++) {
            x.grade();
        }
        for (int g = 0; g < 9; g++) {
            x.cost(g, g * 4 % 9, 10 * g);
        }
        return x;
    }
}
