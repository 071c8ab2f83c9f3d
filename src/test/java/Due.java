/** Counts answers that are not as due, and ends a test with exit code 1 if there was one. */
final class Due {
    private static final int MOST_PRINTED = 40;

    private final String test;
    private String sentence = "";
    private int looked;
    private int wrong;

    Due(String test) {
        this.test = test;
    }

    /** The sentence of the document that the answers from here on are due by; it is printed with each wrong one. */
    void by(String words) {
        sentence = " (" + words + ")";
    }

    void is(String call, long got, long want) {
        looked++;
        if (got != want) {
            wrong(call + " answered " + got + ", due is " + want);
        }
    }

    void holds(String what, boolean so) {
        looked++;
        if (!so) {
            wrong(what);
        }
    }

    private void wrong(String text) {
        wrong++;
        if (wrong <= MOST_PRINTED) {
            System.out.println(test + ": " + text + sentence);
        }
    }

    boolean anyWrong() {
        return wrong > 0;
    }

    void end() {
        System.out.println(test + ": " + looked + " answers looked at, " + wrong + " wrong");
        if (wrong > 0) {
            System.exit(1);
        }
    }
}
