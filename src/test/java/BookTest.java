/** Promises 14 to 16: THE BOOK of the roof, and rounds that are NEW. */
public final class BookTest {
    private static final Due D = new Due();
    private static final int NONE = UnguessedRound.NONE, BAD = UnguessedRound.BAD;

    public static void main(String[] args) {
        next();
        likely();
        fresh();
        D.end();
    }

    private static void next() {
        UnguessedRound x = Due.told("012;01;02;312");
        nextOf(x, 0, NONE, 0, 1, 6);
        nextOf(x, 0, 0, 1, 1, 5);
        nextOf(x, 1, 0, 1, 1, 3);
        nextOf(x, 1, 0, 2, 1, 6);
        nextOf(x, 3, 0, 1, 3, 8);
        nextOf(x, 3, 0, 2, 1, 4);
        nextOf(x, 3, NONE, 0, 4, 9);
        nextOf(x, 4, NONE, 0, 2, 5);
        nextOf(x, 4, NONE, 3, 1, 5);
        nextOf(x, 4, 1, 2, 3, 7);
        nextOf(x, 4, 2, 1, 1, 5);
        nextOf(x, 4, 5, 0, 1, 5);
        nextOf(x, 4, 2, 2, 0, 1);
        int[][] bad = {{-1, 0, 1, 0}, {5, 0, 1, 0}, {0, -2, 1, 0}, {0, 6, 1, 0},
            {0, 0, -1, 0}, {0, 0, 6, 0}, {0, 0, 1, -1}, {0, 0, 1, 2}};
        for (int[] b : bad) {
            String call = "next " + b[0] + ", " + b[1] + ", " + b[2] + ", " + b[3];
            D.due(call, x.next(b[0], b[1], b[2], b[3]), Due.LONG_BAD);
        }
        x.type(';');
        D.due("next with a fault", x.next(0, 0, 1, 1), 5);
        D.due("next behind nights with a fault", x.next(1, 0, 1, 1), Due.LONG_BAD);
    }

    private static void nextOf(UnguessedRound x, int k, int a, int b, long above, long below) {
        String call = "next " + k + ", " + a + ", " + b;
        D.due(call + ", above", x.next(k, a, b, 0), above);
        D.due(call + ", below", x.next(k, a, b, 1), below);
    }

    private static void likely() {
        UnguessedRound x = Due.told("012;012;0;2103;012");
        long[][] fractions = {{1, 150}, {2, 63}, {3, 8}, {1, 9 * 5 * 7 * 7}, {9, 160}};
        for (int night = 0; night < fractions.length; night++) {
            D.due("likely " + night + ", above", x.likely(night, 0), fractions[night][0]);
            D.due("likely " + night + ", below", x.likely(night, 1), fractions[night][1]);
        }
        int[][] bad = {{-1, 0}, {5, 0}, {0, -1}, {0, 2}};
        for (int[] b : bad) {
            D.due("likely " + b[0] + ", " + b[1], x.likely(b[0], b[1]), Due.LONG_BAD);
        }
    }

    private static void fresh() {
        freshOf("", 720, 0, 1, 2, 3, 4, 5);
        freshOf("0", 600, 1, 0, 2, 3, 4, 5);
        freshOf("012345", 265, 1, 0, 2, 4, 3, 5);
        freshOf("0;1;2;3;4", 120, 5, 0, 1, 2, 3, 4);
        freshOf("0;1;2;3;4;5", 0, NONE, NONE, NONE, NONE, NONE, NONE);
        UnguessedRound x = new UnguessedRound();
        D.due("fresh below", x.fresh(-2), BAD);
        D.due("fresh above", x.fresh(6), BAD);
        deadEnd();
    }

    /** A row can begin well and then have no end: the least goes round that. */
    private static void deadEnd() {
        freshOf("45;54", 288, 0, 1, 2, 4, 3, 5);
        freshOf("45;54;13;23;03", 72, 3, 0, 1, 4, 2, 5);
        freshOf("501;402;3;12;1", 114, 0, 3, 1, 4, 2, 5);
        freshOf("50;10;20;30;40", 120, 0, 1, 2, 3, 4, 5);
    }

    private static void freshOf(String nights, int rows, int... least) {
        UnguessedRound x = Due.told(nights);
        D.due("fresh rows of '" + nights + "'", x.fresh(NONE), rows);
        for (int i = 0; i < least.length; i++) {
            D.due("fresh " + i + " of '" + nights + "'", x.fresh(i), least[i]);
        }
    }
}
