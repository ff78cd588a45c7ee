/** Promises 22 and 23: whether the dice were true, and by which seed they fell. */
public final class DiceTest {
    private static final Due D = new Due();
    private static final int NONE = UnguessedRound.NONE, BAD = UnguessedRound.BAD;

    public static void main(String[] args) {
        dice();
        seeds();
        D.end();
    }

    private static void dice() {
        UnguessedRound x = Due.told("01;10;01;0;012");
        diceOf(x, 0, 4, 2, 5 * 27, 512);
        diceOf(x, 1, 4, 1, 5 * 81, 1024);
        diceOf(x, 2, 8, 2, 5, 16);
        diceOf(x, 3, 1, 1, 5L * 15 * 15 * 15 * 15, 1 << 20);
        diceOf(x, 4, 15, 1, 75, 1 << 20);
        diceOf(x, 0, 0, 2, 0, 1);
        diceOf(x, 0, 16, 2, 0, 1);
        UnguessedRound one = Due.told("5");
        diceOf(one, 0, 16, 1, 1, 1);
        diceOf(one, 0, 0, 1, 0, 1);
        diceOf(one, 0, 5, 1, 5, 16);
        UnguessedRound all = Due.told("1;1;1;1;2;2;2;2");
        diceOf(all, 7, 5, 4, 35L * 625 * 14641, 1L << 31);
        diceOf(Due.told("1;1;1;1;1;1;1;1"), 0, 3, 8, 6561, 1L << 32);
        int[][] bad = {{-1, 0, 0}, {5, 0, 0}, {0, -1, 0}, {0, 17, 0}, {0, 17, NONE}, {0, 0, -2}, {0, 0, 2}};
        for (int[] b : bad) {
            D.due("dice " + b[0] + ", " + b[1] + ", " + b[2], x.dice(b[0], b[1], b[2]), Due.LONG_BAD);
        }
    }

    private static void diceOf(UnguessedRound x, int night, int p, long so, long above, long below) {
        String call = "dice " + night + ", " + p;
        D.due(call + ", how many", x.dice(night, p, NONE), so);
        D.due(call + ", above", x.dice(night, p, 0), above);
        D.due(call + ", below", x.dice(night, p, 1), below);
    }

    /** By another way: NIGHTS are made by a SEED's lots, and that SEED must be found again. */
    private static void seeds() {
        UnguessedRound none = new UnguessedRound();
        D.due("seeds of no nights", none.seeds(0), 100);
        D.due("least seed of no nights", none.seeds(1), 0);
        D.due("seeds below", none.seeds(-1), BAD);
        D.due("seeds above", none.seeds(2), BAD);
        for (int pattern = 0; pattern < 128; pattern++) {
            seedsOf(pattern);
        }
        UnguessedRound ordered = Due.told("01;10");
        D.due("another order is another night", ordered.seeds(0), Due.told("01;2").seeds(0));
    }

    private static void seedsOf(int pattern) {
        StringBuilder text = new StringBuilder("3");
        for (int i = 0; i < 7; i++) {
            text.append((pattern >> i & 1) == 0 ? ";3" : ";3" + i % 3);
        }
        long howMany = 0;
        long least = NONE;
        for (long first = 99; first >= 0; first--) {
            if (lots(first) == pattern << 1) {
                howMany++;
                least = first;
            }
        }
        UnguessedRound x = Due.told(text.toString());
        D.due("seeds of " + text, x.seeds(0), howMany);
        D.due("least seed of " + text, x.seeds(1), least);
    }

    private static int lots(long first) {
        long seed = first;
        int bits = 0;
        for (int i = 0; i < 8; i++) {
            seed = (1103515245L * seed + 12345) & 0xffffffffL;
            bits |= (int) (seed / 65536 % 2) << i;
        }
        return bits;
    }
}
