import java.math.BigInteger;
import java.util.function.Supplier;

/** DICE, SEEDS and LOTS of m, and promises 22 and 23, sentence by sentence. */
public final class DiceEdgesTest {
    private static final Due D = new Due();
    private static final int NONE = UnguessedRound.NONE, BAD = UnguessedRound.BAD;
    private static final String LIKE = "3;3;3;3;3;3;3;3";
    private static final String UNLIKE = "0;1;2;3;4;5;01;10";

    public static void main(String[] args) {
        asItAllItsShedsInItsOrder();
        oneNight();
        allAsIt();
        noneOfTheOthers();
        byAllSixteenths();
        diceBesideTheNumbers();
        seedsOfNoNights();
        seedsOfFewNights();
        theFirstAndTheLastSeed();
        noSeed();
        seedsAsIntsThatWrap();
        zeroAsNightZero();
        seedsBesideTheNumbers();
        D.end();
    }

    private static void asItAllItsShedsInItsOrder() {
        UnguessedRound x = Due.told("012;021;01;0123;120;012;0;12");
        int[] alike = {2, 1, 1, 1, 1, 2, 1, 1};
        for (int night = 0; night < 8; night++) {
            D.due("how many are as " + night, x.dice(night, 7, NONE), alike[night]);
        }
        UnguessedRound y = Due.told("012345;012354;012345;12345");
        D.due("alike to the last SHED", y.dice(0, 0, NONE), 2);
        D.due("unlike in the last two", y.dice(1, 16, NONE), 1);
        D.due("unlike by the first", y.dice(3, 16, NONE), 1);
        UnguessedRound z = Due.told("01234;012345;01234");
        D.due("unlike by one more", z.dice(0, 16, NONE), 2);
        D.due("unlike by one less", z.dice(1, 16, NONE), 1);
    }

    private static void oneNight() {
        for (int p = 0; p <= 16; p++) {
            long divisor = divisor(p, 16);
            diceOf(Due.told("50"), 0, p, 1, p / divisor, 16 / divisor);
        }
    }

    /** Chances of 0 and of 16 sixteenths, and the greatest numbers above and below. */
    private static void allAsIt() {
        UnguessedRound x = Due.told(LIKE);
        diceOf(x, 7, 0, 8, 0, 1);
        diceOf(x, 7, 1, 8, 1, 4294967296L);
        diceOf(x, 0, 15, 8, 2562890625L, 4294967296L);
        diceOf(x, 0, 16, 8, 1, 1);
        diceOf(x, 0, 8, 8, 1, 256);
    }

    private static void noneOfTheOthers() {
        UnguessedRound x = Due.told(UNLIKE);
        diceOf(x, 0, 0, 1, 0, 1);
        diceOf(x, 0, 1, 1, 170859375, 536870912);
        diceOf(x, 7, 15, 1, 15, 536870912);
        diceOf(x, 7, 16, 1, 0, 1);
        diceOf(x, 3, 8, 1, 1, 32);
    }

    /** For each count of NIGHTS, of these that are as NIGHT 0, and p: against BigInteger. */
    private static void byAllSixteenths() {
        for (int all = 1; all <= 8; all++) {
            for (int so = 1; so <= all; so++) {
                String nights = "2;".repeat(so) + "23;".repeat(all - so);
                UnguessedRound x = Due.told(nights.substring(0, nights.length() - 1));
                for (int p = 0; p <= 16; p++) {
                    BigInteger above = BigInteger.valueOf(p).pow(so).multiply(BigInteger.valueOf(16 - p).pow(all - so))
                        .multiply(BigInteger.valueOf(rows(all, so)));
                    BigInteger below = BigInteger.valueOf(16).pow(all);
                    BigInteger divisor = above.gcd(below);
                    diceOf(x, 0, p, so, above.divide(divisor).longValueExact(), below.divide(divisor).longValueExact());
                }
            }
        }
    }

    /** In how many ways so many of all can be picked. */
    private static long rows(int all, int so) {
        return so == 0 || so == all ? 1 : rows(all - 1, so - 1) + rows(all - 1, so);
    }

    private static void diceBesideTheNumbers() {
        for (String nights : new String[] {"", "0;", "01", LIKE}) {
            Supplier<UnguessedRound> made = () -> Due.told(nights);
            int all = made.get().count(0);
            int[][] bad = {{-1, 8, 0}, {all, 8, 0}, {8, 8, 0}, {0, -1, 0}, {0, 17, 0}, {0, -1, NONE}, {0, 17, NONE},
                {0, 8, -2}, {0, 8, 2}, {-1, 8, NONE}, {all, 8, NONE}};
            for (int[] b : bad) {
                String call = "dice " + b[0] + ", " + b[1] + ", " + b[2] + " of '" + nights + "'";
                D.refused(call, made, x -> x.dice(b[0], b[1], b[2]), Due.LONG_BAD, Due.NO_FINDING);
            }
        }
    }

    private static void diceOf(UnguessedRound x, int night, int p, long so, long above, long below) {
        D.due("dice " + night + ", " + p + ", how many", x.dice(night, p, NONE), so);
        D.due("dice " + night + ", " + p + ", above", x.dice(night, p, 0), above);
        D.due("dice " + night + ", " + p + ", below", x.dice(night, p, 1), below);
    }

    private static void seedsOfNoNights() {
        for (String nights : new String[] {"", "7", "0;", "0;1;00"}) {
            seedsOf(nights, 100, 0);
        }
    }

    /** The numbers were worked out by another program, with numbers that do not wrap. */
    private static void seedsOfFewNights() {
        seedsOf("4", 50, 0);
        seedsOf("4;4", 25, 0);
        seedsOf("4;2", 25, 2);
    }

    /** "SEEDS 0 to 99": SEED 0's lots are 0 0 0 1 0 1 1 1, SEED 99's 0 1 0 0 1 1 0 1, and no other's are. */
    private static void theFirstAndTheLastSeed() {
        seedsOf("1;1;1;2;1;3;4;5", 3, 0);
        seedsOf("1;2;1;1;3;4;1;5", 1, 99);
    }

    /** SEED 100's lots are 0 0 1 0 0 1 1 0, SEED 120's are all 0; none of 0 to 99 has these. */
    private static void noSeed() {
        seedsOf("1;1;0;1;1;0;0;1", 0, NONE);
        seedsOf(LIKE, 0, NONE);
    }

    /** By SEED 2 the first step is 2207042835, above all ints; its lots are 0 1 1 0 1 1 0 1, and it alone has them. */
    private static void seedsAsIntsThatWrap() {
        seedsOf("1;0;0;1;0;0;1;0", 1, 2);
    }

    /** "0 as NIGHT 0, 1 not": NIGHTS that are unlike NIGHT 0 need not be like one another; another order is unlike. */
    private static void zeroAsNightZero() {
        seedsOf("12;21;12;12;1;123;12;0", 1, 99);
        seedsOf("12;21;21;12;21;21;12;21", 1, 2);
        seedsOf("012345;0;01;012345;1;2;012345;012354", 1, 2);
    }

    private static void seedsBesideTheNumbers() {
        for (String nights : new String[] {"", "0;", LIKE}) {
            for (int what : new int[] {-1, 2, Integer.MIN_VALUE, Integer.MAX_VALUE}) {
                D.refused("seeds " + what, () -> Due.told(nights), x -> x.seeds(what), BAD, Due.NO_FINDING);
            }
        }
    }

    private static void seedsOf(String nights, int howMany, int least) {
        UnguessedRound x = Due.told(nights);
        D.due("least seed of '" + nights + "'", x.seeds(1), least);
        D.due("seeds of '" + nights + "'", x.seeds(0), howMany);
    }

    private static long divisor(long a, long b) {
        return b == 0 ? a : divisor(b, a % b);
    }
}
