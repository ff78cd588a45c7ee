/** Promises 10 to 13: where the watch is, and what is stolen meanwhile. */
public final class WatchTest {
    private static final Due D = new Due();
    private static final int NONE = UnguessedRound.NONE, BAD = UnguessedRound.BAD;

    public static void main(String[] args) {
        at();
        when();
        alone();
        steals();
        beyondTheNight();
        D.end();
    }

    private static void at() {
        UnguessedRound x = Due.told("20;4");
        x.way(0, 2, 5);
        x.set(0, 3);
        int[] where = {2, 2, 2, NONE, NONE, NONE, NONE, NONE, 0, 0, 0, NONE, NONE};
        for (int minute = 0; minute < where.length; minute++) {
            D.due("at 0, " + minute, x.at(0, minute), where[minute]);
        }
        D.due("at the end", x.at(0, 59), NONE);
        D.due("at in the other night", x.at(1, 2), 4);
        D.due("at behind the last shed", x.at(1, 3), NONE);
        int[][] bad = {{-1, 0}, {2, 0}, {0, -1}, {0, 60}};
        for (int[] b : bad) {
            D.due("at " + b[0] + ", " + b[1], x.at(b[0], b[1]), BAD);
        }
    }

    private static void when() {
        UnguessedRound x = Due.told("310");
        x.way(1, 3, 9);
        D.due("when at the first", x.when(0, 3), 0);
        D.due("when at the second", x.when(0, 1), 11);
        D.due("when at the third", x.when(0, 0), 16);
        D.due("when at none", x.when(0, 5), NONE);
        x.way(0, 1, 4);
        D.due("when behind a longer way", x.when(0, 0), 17);
        int[][] bad = {{-1, 0}, {1, 0}, {0, -1}, {0, 6}};
        for (int[] b : bad) {
            D.due("when " + b[0] + ", " + b[1], x.when(b[0], b[1]), BAD);
        }
    }

    private static void alone() {
        UnguessedRound x = Due.told("0123");
        x.way(0, 1, 9);
        x.way(1, 2, 9);
        x.way(2, 3, 5);
        x.set(0, 1);
        aloneOf(x, 0, 59, 1);
        aloneOf(x, 1, 49, 11);
        aloneOf(x, 2, 39, 21);
        aloneOf(x, 3, 33, 27);
        aloneOf(x, 4, 60, 0);
        int[][] bad = {{-1, 0, 0}, {1, 0, 0}, {0, -1, 0}, {0, 6, 0}, {0, 0, -1}, {0, 0, 2}};
        for (int[] b : bad) {
            D.due("alone " + b[0] + ", " + b[1] + ", " + b[2], x.alone(b[0], b[1], b[2]), BAD);
        }
        likeRows();
    }

    private static void likeRows() {
        UnguessedRound x = Due.told("01234");
        x.way(0, 1, 9);
        x.way(1, 2, 9);
        x.way(2, 3, 1);
        x.way(3, 4, 1);
        x.set(0, 2);
        D.due("when nearly in the middle", x.when(0, 4), 28);
        aloneOf(x, 4, 30, 30);
        x.way(3, 4, 2);
        D.due("when in the middle", x.when(0, 4), 29);
        aloneOf(x, 4, 29, 0);
    }

    private static void aloneOf(UnguessedRound x, int shed, int howMany, int first) {
        D.due("alone 0, " + shed + ", how many", x.alone(0, shed, 0), howMany);
        D.due("alone 0, " + shed + ", the first", x.alone(0, shed, 1), first);
    }

    private static void steals() {
        UnguessedRound x = Due.told("01");
        x.way(0, 1, 9);
        x.worth(0, 40);
        x.worth(1, 50);
        x.worth(2, 0);
        D.due("steals, the watch is there", x.steals(0, 0, 0), 0);
        D.due("steals, the watch just there", x.steals(0, 0, 1), 0);
        D.due("steals, the watch just gone", x.steals(0, 0, 2), 40);
        D.due("steals, just away ahead of it", x.steals(0, 1, 5), 50);
        D.due("steals, not quite away", x.steals(0, 1, 6), 0);
        D.due("steals, in its last minute", x.steals(0, 1, 12), 0);
        D.due("steals, behind it", x.steals(0, 1, 13), 50);
        D.due("steals where nothing is", x.steals(0, 2, 30), 0);
        D.due("steals where the watch never is", x.steals(0, 3, 0), 10);
        D.due("steals in the last minute", x.steals(0, 1, 54), 50);
        D.due("steals beyond it", x.steals(0, 1, 55), BAD);
        x.set(1, 20);
        D.due("steals in the last minute of long NEED", x.steals(0, 1, 40), 50);
        D.due("steals beyond it", x.steals(0, 1, 41), BAD);
        x.set(1, 1);
        D.due("steals in the last minute of short NEED", x.steals(0, 1, 59), 50);
        D.due("steals beyond it", x.steals(0, 1, 60), BAD);
        int[][] bad = {{-1, 0, 0}, {1, 0, 0}, {0, -1, 0}, {0, 6, 0}, {0, 0, -1}};
        for (int[] b : bad) {
            D.due("steals " + b[0] + ", " + b[1] + ", " + b[2], x.steals(b[0], b[1], b[2]), BAD);
        }
    }

    private static void beyondTheNight() {
        UnguessedRound x = Due.told("012345");
        x.set(0, 5);
        for (int shed = 0; shed < 5; shed++) {
            x.way(shed, shed + 1, 9);
        }
        D.due("when at the last but one", x.when(0, 4), 56);
        aloneOf(x, 4, 56, 0);
        D.due("at in the last minute", x.at(0, 59), 4);
        D.due("when beyond 59", x.when(0, 5), NONE);
        aloneOf(x, 5, 60, 0);
        D.due("steals where the watch comes too late", x.steals(0, 5, 54), 10);
        x.set(0, 4);
        x.way(0, 1, 4);
        D.due("when in minute 60", x.when(0, 5), NONE);
        aloneOf(x, 5, 60, 0);
        x.way(0, 1, 3);
        D.due("when in minute 59", x.when(0, 5), 59);
        aloneOf(x, 5, 59, 0);
        D.due("at in minute 59", x.at(0, 59), 5);
        D.due("steals just ahead of minute 59", x.steals(0, 5, 53), 10);
        D.due("steals in minute 59", x.steals(0, 5, 54), 0);
    }
}
