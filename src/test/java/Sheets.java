/** Sheets that several tests begin with. */
final class Sheets {
    private Sheets() {
    }

    static BroadSheet withBases(int... bases) {
        BroadSheet x = new BroadSheet();
        x.sheet(bases.length);
        for (int p = 0; p < bases.length; p++) {
            x.base(p, bases[p]);
        }
        return x;
    }
}
