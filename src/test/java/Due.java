import java.util.function.Supplier;
import java.util.function.ToLongFunction;

/** What the tests share: answers that are due, and texts that are typed. */
final class Due {
    /** How a refusal -x is told where the answer is a long. */
    static final long LONG_BAD = Long.MIN_VALUE + 2;
    static final int NO_FINDING = 0;

    private int wrong = 0;

    void due(String call, long got, long want) {
        if (got != want) {
            wrong++;
            System.out.println(call + " answered " + got + ", due is " + want);
        }
    }

    /**
     * A refused call: what it answers, which FINDING it leaves (NO_FINDING: the one that stood ahead of it
     * stays), and that all the rest is as on an object that was made likewise and not called so.
     */
    void refused(String call, Supplier<UnguessedRound> made, ToLongFunction<UnguessedRound> act, long want, int finding) {
        UnguessedRound x = made.get();
        int was = x.count(8);
        due(call, act.applyAsLong(x), want);
        due("the finding behind " + call, x.count(8), finding == NO_FINDING ? was : finding);
        unchanged(call, x, made.get());
    }

    /** What is told of two objects, but for the latest FINDING, is the same; both are of no use behind this. */
    void unchanged(String call, UnguessedRound x, UnguessedRound twin) {
        long[] told = State.of(x);
        long[] due = State.of(twin);
        due("how much is told behind " + call, told.length, due.length);
        for (int i = 0; i < told.length && i < due.length; i++) {
            due("the state at place " + i + " behind " + call, told[i], due[i]);
        }
    }

    void end() {
        if (wrong != 0) {
            System.out.println(wrong + " answers are not as due");
            System.exit(1);
        }
    }

    static UnguessedRound told(String nights) {
        UnguessedRound x = new UnguessedRound();
        type(x, nights);
        return x;
    }

    static void type(UnguessedRound x, String nights) {
        for (int i = 0; i < nights.length(); i++) {
            x.type(nights.charAt(i));
        }
    }
}
