/** What the tests share: answers that are due, and texts that are typed. */
final class Due {
    /** How a refusal -x is told where the answer is a long. */
    static final long LONG_BAD = Long.MIN_VALUE + 2;

    private int wrong = 0;

    void due(String call, long got, long want) {
        if (got != want) {
            wrong++;
            System.out.println(call + " answered " + got + ", due is " + want);
        }
    }

    void end() {
        if (wrong != 0) {
            System.out.println(wrong + " answers are not as due");
            System.exit(1);
        }
    }

    static UnguessedRound told(String nights) {
        UnguessedRound x = new UnguessedRound();
        type(x, nights);
        return x;
    }

    static void type(UnguessedRound x, String nights) {
        for (int i = 0; i < nights.length(); i++) {
            x.type(nights.charAt(i));
        }
    }
}
