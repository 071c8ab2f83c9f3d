import java.util.ArrayList;
import java.util.List;

/**
 * What an object answers to all that can be asked of it, and to calls that show what is not told otherwise. It is
 * told in parts, each on an object of its own, for an object is used for 512 calls at most.
 */
final class Tale {
    static final int PARTS = 6;

    private final BroadSheet x;
    private final List<String> rows = new ArrayList<>();

    private Tale(BroadSheet x) {
        this.x = x;
    }

    static List<String> of(BroadSheet x, int part) {
        Tale tale = new Tale(x);
        switch (part) {
            case 0 -> tale.readings(0, 2);
            case 1 -> tale.readings(2, 4);
            case 2 -> tale.net();
            case 3 -> tale.lips();
            case 4 -> tale.setsAndTours();
            default -> tale.whatComesThen();
        }
        return tale.rows;
    }

    private void row(String call, int answer) {
        rows.add(call + " answered " + answer);
    }

    private void readings(int from, int to) {
        for (int what = 0; what <= 8; what++) {
            row("told(" + what + ")", x.told(what));
        }
        int readings = x.told(1);
        for (int i = 0; i < readings; i++) {
            for (int what = from; what < to; what++) {
                row("reading(" + i + ", " + what + ")", x.reading(i, what));
            }
        }
    }

    private void net() {
        row("groups()", x.groups());
        int places = x.told(0);
        for (int p = 0; p < places; p++) {
            row("across(" + p + ")", x.across(p));
        }
        for (int t = 0; t < 40; t++) {
            row("along(" + t + ", 9)", x.along(t, 9));
            row("along(20, " + t + ")", x.along(20, t));
        }
        row("take()", x.take());
        for (int p = 0; p < places; p++) {
            row("about(" + p + ", 1) behind take()", x.about(p, 1));
            row("read(9, " + p + ", 0)", x.read(9, p, 0));
        }
        row("clear()", x.clear());
    }

    private void lips() {
        int places = x.told(0);
        for (int p = 0; p < places; p++) {
            for (int what = 0; what <= 2; what++) {
                row("about(" + p + ", " + what + ")", x.about(p, what));
            }
        }
        for (int kind = 0; kind <= 1; kind++) {
            row("uneven(" + kind + ")", x.uneven(kind));
        }
        for (int kind = 0; kind <= 1; kind++) {
            row("best(" + kind + ")", x.best(kind));
            for (int p = 0; p < places; p++) {
                row("about(" + p + ", 0) behind best(" + kind + ")", x.about(p, 0));
            }
        }
    }

    private void setsAndTours() {
        int places = x.told(0);
        int kinds = x.told(3);
        int grades = x.told(4);
        for (int p = 0; p < places; p++) {
            row("cutAt(" + p + ")", x.cutAt(p));
            for (int k = 0; k < kinds; k++) {
                row("canLie(" + k + ", " + p + ")", x.canLie(k, p));
            }
        }
        row("cut()", x.cut());
        for (int from = 0; from < grades; from++) {
            row("tour(" + from + ")", x.tour(from));
            for (int i = 0; i < grades; i++) {
                row("tourAt(" + from + ", " + i + ")", x.tourAt(from, i));
            }
        }
    }

    private void whatComesThen() {
        row("kind(1, 1, 1)", x.kind(1, 1, 1));
        row("grade()", x.grade());
        row("read(39, 0, 5)", x.read(39, 0, 5));
        row("set(0, -6)", x.set(0, -6));
        row("set(1, 5)", x.set(1, 5));
        int grades = x.told(4);
        for (int from = 0; from < grades; from++) {
            for (int to = 0; to < grades; to++) {
                row("cost(" + from + ", " + to + ", 1)", x.cost(from, to, 1));
            }
        }
        for (int what = 0; what <= 8; what++) {
            row("told(" + what + ")", x.told(what));
        }
        row("clear()", x.clear());
        row("sheet(2)", x.sheet(2));
        for (int what = 0; what <= 8; what++) {
            row("told(" + what + ") behind sheet(2)", x.told(what));
        }
    }
}
