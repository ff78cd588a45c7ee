/** Promises 17 to 21: LOTS of two NIGHTS, and thieves who know of them. */
public final class LotsTest {
    private static final Due D = new Due();
    private static final int BAD = UnguessedRound.BAD, NOT = UnguessedRound.NOT;

    public static void main(String[] args) {
        breaks();
        crossedBreaks();
        seen();
        least();
        lamp();
        learn();
        D.end();
    }

    /** SHEDS 0 and 1 alone have something, and the watch leaves each in one NIGHT only. */
    private static UnguessedRound guarded() {
        UnguessedRound x = Due.told("0;1");
        x.set(0, 5);
        for (int shed = 0; shed < 6; shed++) {
            x.worth(shed, 0);
        }
        return x;
    }

    private static void breaks() {
        UnguessedRound x = Due.told("01;10");
        x.worth(0, 40);
        x.worth(1, 70);
        x.worth(5, 70);
        breakOf(x, 8, 1, 7, 1120);
        UnguessedRound y = guarded();
        breakOf(y, 8, 0, 0, 0);
        y.worth(3, 1);
        breakOf(y, 8, 3, 0, 16);
        y.worth(5, 1);
        breakOf(y, 8, 3, 0, 16);
        y.worth(1, 3);
        breakOf(y, 0, 1, 5, 48);
        breakOf(y, 4, 1, 5, 48);
        breakOf(y, 16, 1, 0, 48);
        D.due("breaks at the edge of NEED", y.set(1, 20), 6);
        breakOf(y, 1, 1, 5, 48);
        int[][] bad = {{-1, 0, 0, 0}, {2, 0, 0, 0}, {0, -1, 0, 0}, {0, 2, 0, 0},
            {0, 1, -1, 0}, {0, 1, 17, 0}, {0, 1, 0, -1}, {0, 1, 0, 3}};
        for (int[] b : bad) {
            String call = "breaks " + b[0] + ", " + b[1] + ", " + b[2] + ", " + b[3];
            D.due(call, x.breaks(b[0], b[1], b[2], b[3]), BAD);
        }
        D.due("breaks of no nights", new UnguessedRound().breaks(0, 0, 0, 0), BAD);
    }

    private static void breakOf(UnguessedRound x, int p, int shed, int minute, int mean) {
        D.due("breaks by " + p + ", shed", x.breaks(0, 1, p, 0), shed);
        D.due("breaks by " + p + ", minute", x.breaks(0, 1, p, 1), minute);
        D.due("breaks by " + p + ", mean", x.breaks(0, 1, p, 2), mean);
    }

    private static void seen() {
        UnguessedRound x = Due.told("01;02;20");
        x.worth(1, 30);
        x.worth(2, 20);
        x.set(1, 5);
        seenOf(x, 0, 1, 6, 0, 1, 7, 480);
        seenOf(x, 0, 1, 8, 0, 1, 7, 480);
        seenOf(x, 0, 2, 6, 0, 1, 7, 180);
        seenOf(x, 0, 2, 6, 2, 1, 1, 300);
        seenOf(x, 2, 0, 6, 0, 1, 7, 300);
        seenOf(x, 0, 2, 0, 0, NOT, NOT, NOT);
        seenOf(x, 0, 2, 16, 2, NOT, NOT, NOT);
        seenOf(x, 0, 2, 16, 0, 1, 7, 480);
        seenOf(x, 0, 1, 6, 2, NOT, NOT, NOT);
        seenOf(x, 1, 1, 6, 0, 1, 1, 480);
        for (int shed = 1; shed < 6; shed++) {
            x.worth(shed, 0);
        }
        x.worth(0, 0);
        seenOf(x, 0, 1, 6, 0, 0, 1, 0);
        int[][] bad = {{-1, 0, 0, 0, 0}, {3, 0, 0, 0, 0}, {0, -1, 0, 0, 0}, {0, 3, 0, 0, 0},
            {0, 1, -1, 0, 0}, {0, 1, 17, 0, 0}, {0, 1, 0, -1, 0}, {0, 1, 0, 6, 0},
            {0, 1, 0, 5, -1}, {0, 1, 0, 5, 3}};
        for (int[] b : bad) {
            String call = "seen " + b[0] + ", " + b[1] + ", " + b[2] + ", " + b[3] + ", " + b[4];
            D.due(call, x.seen(b[0], b[1], b[2], b[3], b[4]), BAD);
        }
    }

    private static void seenOf(UnguessedRound x, int a, int b, int p, int shed, int... answers) {
        for (int what = 0; what < 3; what++) {
            String call = "seen " + a + ", " + b + ", " + p + ", " + shed + ", " + what;
            D.due(call, x.seen(a, b, p, shed, what), answers[what]);
        }
    }

    /**
     * With NEED 20 the watch is at SHED 1 in MINUTE 14 of NIGHT 0 and 36 of NIGHT 1: no thief has
     * what is in it in both. SHED 5 is never looked at; in the others is nothing.
     */
    private static UnguessedRound crossed(int ofOne, int ofBoth) {
        UnguessedRound x = Due.told("01;2341");
        x.set(0, 5);
        x.set(1, 20);
        x.way(0, 1, 9);
        x.way(2, 3, 7);
        x.way(3, 4, 7);
        x.way(4, 1, 7);
        for (int shed = 0; shed < 6; shed++) {
            x.worth(shed, shed == 1 ? ofOne : shed == 5 ? ofBoth : 0);
        }
        return x;
    }

    private static void crossedBreaks() {
        UnguessedRound x = crossed(9, 2);
        breakOf(x, 8, 1, 0, 72);
        breakOf(x, 9, 1, 19, 81);
        breakOf(x, 7, 1, 0, 81);
        breakOf(x, 0, 1, 0, 144);
        breakOf(x, 16, 1, 19, 144);
        UnguessedRound y = crossed(8, 4);
        breakOf(y, 8, 1, 0, 64);
        breakOf(crossed(7, 4), 8, 5, 0, 64);
    }

    private static void least() {
        leastOf(crossed(9, 2), 0, 1, 1, 2, 9, 2);
        leastOf(crossed(9, 2), 1, 0, 1, 2, 9, 2);
        leastOf(crossed(9, 2), 0, 0, 0, 1, 9, 1);
        leastOf(crossed(8, 2), 0, 1, 1, 2, 4, 1);
        leastOf(crossed(8, 4), 0, 1, 1, 2, 4, 1);
        leastOf(crossed(7, 5), 0, 1, 2, 7, 5, 1);
        leastOf(crossed(6, 4), 0, 1, 1, 3, 4, 1);
        leastOf(crossed(99, 98), 0, 1, 1, 99, 98, 1);
        leastOf(crossed(5, 5), 0, 1, 0, 1, 5, 1);
        leastOf(crossed(5, 9), 0, 1, 0, 1, 9, 1);
        leastOf(crossed(0, 0), 0, 1, 0, 1, 0, 1);
        leastOf(crossed(0, 1), 0, 1, 0, 1, 1, 1);
        leastOf(crossed(1, 0), 0, 1, 1, 2, 1, 2);
        leastByTurns();
        leastAtTheEdges();
        UnguessedRound x = crossed(9, 2);
        x.way(2, 3, 9);
        leastOf(x, 0, 1, 1, 2, 9, 2);
        x.way(3, 4, 8);
        leastOf(x, 0, 1, 0, 1, 9, 1);
        int[][] bad = {{-1, 0, 0}, {2, 0, 0}, {0, -1, 0}, {0, 2, 0}, {0, 1, -1}, {0, 1, 4}};
        for (int[] b : bad) {
            D.due("least " + b[0] + ", " + b[1] + ", " + b[2], x.least(b[0], b[1], b[2]), Due.LONG_BAD);
        }
    }

    /** What was asked ahead of it does not matter. */
    private static void leastByTurns() {
        UnguessedRound x = crossed(9, 8);
        leastOf(x, 0, 1, 1, 9, 8, 1);
        x.worth(5, 2);
        D.due("least mean, of both less", x.least(0, 1, 2), 9);
        x.worth(1, 6);
        D.due("least mean, of each less", x.least(0, 1, 2), 3);
        leastOf(x, 0, 1, 1, 2, 3, 1);
        x.worth(5, 4);
        leastOf(x, 0, 1, 1, 3, 4, 1);
        x.worth(0, 7);
        leastOf(x, 0, 1, 0, 1, 7, 1);
    }

    /** A thief has it in both NIGHTS from the last MINUTE alone, or from the first alone. */
    private static void leastAtTheEdges() {
        UnguessedRound x = crossed(9, 2);
        x.way(4, 1, 6);
        leastOf(x, 0, 1, 0, 1, 9, 1);
        breakOf(x, 8, 1, 40, 144);
        D.due("lamp in it", x.lamp(0, 1, 8, 1), 112);
        x.way(4, 1, 7);
        leastOf(x, 0, 1, 1, 2, 9, 2);
        UnguessedRound y = Due.told("021;2341");
        y.set(0, 5);
        y.set(1, 20);
        y.way(0, 2, 5);
        y.way(2, 1, 5);
        y.way(2, 3, 7);
        y.way(3, 4, 7);
        y.way(4, 1, 7);
        for (int shed = 0; shed < 6; shed++) {
            y.worth(shed, shed == 1 ? 9 : 0);
        }
        leastOf(y, 0, 1, 0, 1, 9, 1);
        breakOf(y, 8, 1, 0, 144);
        D.due("lamp in it", y.lamp(0, 1, 8, 1), 144);
        y.worth(5, 20);
        D.due("lamp in one that has more", y.lamp(0, 1, 8, 5), 320 - 144);
        y.worth(5, 0);
        y.way(0, 2, 4);
        leastOf(y, 0, 1, 1, 2, 9, 2);
        breakOf(y, 8, 1, 0, 72);
    }

    private static void leastOf(UnguessedRound x, int a, int b, long... answers) {
        for (int what = 0; what < 4; what++) {
            D.due("least " + a + ", " + b + ", " + what, x.least(a, b, what), answers[what]);
        }
    }

    private static void lamp() {
        UnguessedRound x = crossed(9, 2);
        D.due("lamp in 1 by 8", x.lamp(0, 1, 8, 1), 40);
        D.due("lamp in 1 by 16", x.lamp(0, 1, 16, 1), 112);
        D.due("lamp in 5", x.lamp(0, 1, 8, 5), 0);
        D.due("lamp in 0", x.lamp(0, 1, 8, 0), 0);
        D.due("lamp in 1, of like ones", crossed(8, 4).lamp(0, 1, 8, 1), 0);
        D.due("lamp in 5, of more", crossed(7, 4).lamp(0, 1, 8, 5), 8);
        D.due("lamp in 1, all that there is", crossed(9, 0).lamp(0, 1, 8, 1), 72);
        D.due("lamp leaves breaks as they are", x.breaks(0, 1, 8, 2), 72);
        UnguessedRound y = Due.told("1;2");
        y.worth(0, 30);
        D.due("lamp in 0, the best", y.lamp(0, 1, 3, 0), 320);
        int[][] bad = {{-1, 0, 0, 0}, {2, 0, 0, 0}, {0, -1, 0, 0}, {0, 2, 0, 0},
            {0, 1, -1, 0}, {0, 1, 17, 0}, {0, 1, 0, -1}, {0, 1, 0, 6}};
        for (int[] b : bad) {
            D.due("lamp " + b[0] + ", " + b[1] + ", " + b[2] + ", " + b[3], x.lamp(b[0], b[1], b[2], b[3]), BAD);
        }
    }

    /** Of like ones SHED 0 from MINUTE 0 on: the watch of the one NIGHT is there, and soon gone. */
    private static void learnFromTheFirst() {
        UnguessedRound x = Due.told("0;1");
        x.set(0, 1);
        for (int n = 1; n <= 5; n++) {
            D.due("learn, the watch there, gone " + n, x.learn(0, 1, n, 0), n);
            D.due("learn, the watch there, had " + n, x.learn(0, 1, n, 1), 10 * (n - 1));
            D.due("learn, the watch not there, gone " + n, x.learn(1, 0, n, 0), 1);
            D.due("learn, the watch not there, had " + n, x.learn(1, 0, n, 1), n == 1 ? 10 : 10 * (n - 1));
        }
    }

    private static void learn() {
        UnguessedRound x = crossed(9, 2);
        UnguessedRound poor = crossed(1, 0);
        int[] gone = {1, 2, 2, 2, 2, 2, 2, 3};
        int[] thefts = {0, 1, 1, 1, 2, 3, 4, 4};
        for (int n = 1; n <= gone.length; n++) {
            D.due("learn " + n + ", gone", x.learn(0, 1, n, 0), gone[n - 1]);
            D.due("learn " + n + ", had", x.learn(0, 1, n, 1), 9 * thefts[n - 1]);
            D.due("learn " + n + " of the poor, gone", poor.learn(0, 1, n, 0), gone[n - 1]);
            D.due("learn " + n + " of the poor, had", poor.learn(0, 1, n, 1), thefts[n - 1]);
        }
        learnFromTheFirst();
        D.due("learn of one night alone, gone", x.learn(0, 0, 99, 0), 99);
        D.due("learn of one night alone, had", x.learn(0, 0, 99, 1), 98 * 9);
        int[][] bad = {{-1, 0, 1, 0}, {2, 0, 1, 0}, {0, -1, 1, 0}, {0, 2, 1, 0},
            {0, 1, 0, 0}, {0, 1, 100, 0}, {0, 1, -1, 0}, {0, 1, 1, -1}, {0, 1, 1, 2}};
        for (int[] b : bad) {
            D.due("learn " + b[0] + ", " + b[1] + ", " + b[2] + ", " + b[3], x.learn(b[0], b[1], b[2], b[3]), BAD);
        }
    }
}
