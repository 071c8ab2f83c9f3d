import java.util.function.Supplier;
import java.util.function.ToIntFunction;

/** Calls with one number at its edges, all others being as told. Each call is made on a new object. */
final class Edges {
    interface OfOneNumber {
        int on(BroadSheet x, int number);
    }

    private final Due due;
    private final Supplier<BroadSheet> made;

    Edges(Due due, Supplier<BroadSheet> made) {
        this.due = due;
        this.made = made;
    }

    /** Numbers just beyond, as far out as an int goes, and some that would be within if they were cut short. */
    static int[] beyond(int least, int most) {
        return new int[] {
            least - 1, most + 1, least - 2, most + 2, least - (1 << 8), most + (1 << 8), least - (1 << 16),
            most + (1 << 16), -(1 << 30), 1 << 30, Integer.MIN_VALUE, Integer.MIN_VALUE + 1,
            Integer.MIN_VALUE + 1 + most, Integer.MAX_VALUE - 1, Integer.MAX_VALUE};
    }

    void refused(String call, OfOneNumber of, int least, int most, int refusal) {
        for (int number : beyond(least, most)) {
            due.is(call + " of " + number, of.on(made.get(), number), refusal);
        }
    }

    void taken(String call, OfOneNumber of, int number, int answer) {
        due.is(call + " of " + number, of.on(made.get(), number), answer);
    }

    /** The number is taken, and is told so behind the call. */
    void taken(String call, OfOneNumber of, int number, int answer, ToIntFunction<BroadSheet> told) {
        BroadSheet x = made.get();
        due.is(call + " of " + number, of.on(x, number), answer);
        due.is("what is told behind " + call + " of " + number, told.applyAsInt(x), number);
    }
}
