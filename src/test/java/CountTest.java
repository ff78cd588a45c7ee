/** Promises 30 and 31: what is counted, and the digest. */
public final class CountTest {
    private static final Due D = new Due();
    private static final int NONE = UnguessedRound.NONE, BAD = UnguessedRound.BAD;

    public static void main(String[] args) {
        count();
        digest();
        D.end();
    }

    private static void count() {
        UnguessedRound x = Due.told("012;012;021;3");
        countsOf(x, 4, 13, 2, 6, 60, 45, 6, 10);
        x.worth(3, 99);
        x.way(5, 4, 9);
        x.set(0, 1);
        x.set(1, 20);
        countsOf(x, 4, 13, 1, 20, 149, 51, 6, 10);
        Due.type(x, ";");
        countsOf(x, 0, 14, 1, 20, 149, 51, 0, 0);
        Due.type(x, "10");
        countsOf(x, 5, 16, 1, 20, 149, 51, 8, 12);
        Due.type(x, ";2345");
        D.due("all steps, not asked ahead", x.count(7), 16);
        D.due("no finding yet", x.count(8), 0);
        x.lose(0);
        D.due("the finding", x.count(8), 1);
        x.sheet(0, 0, -1);
        D.due("a later finding", x.count(8), 5);
        D.due("count below", x.count(-1), BAD);
        D.due("count above", x.count(9), BAD);
        D.due("BAD leaves the finding", x.count(8), 5);
    }

    private static void countsOf(UnguessedRound x, int... counts) {
        for (int what = 0; what < counts.length; what++) {
            D.due("count " + what, x.count(what), counts[what]);
        }
    }

    private static void digest() {
        String[] texts = {"", "0", "012345;3", "2;02;1", "01;10;", "0;1;2;3;4;5;0;1", "01;10;012;0123;01234;012345"};
        for (String text : texts) {
            UnguessedRound x = Due.told(text);
            x.worth(2, 30);
            x.way(0, 1, 8);
            D.due("digest of '" + text + "'", x.digest(), parts(x));
            x.set(1, 20);
            x.set(0, 5);
            D.due("digest of '" + text + "', all slower", x.digest(), parts(x));
            x.set(1, 6);
            x.set(0, 1);
            x.way(0, 1, 9);
            D.due("digest of '" + text + "', the watch faster", x.digest(), parts(x));
            x.set(0, 2);
            D.due("digest of '" + text + "', with a long way", x.digest(), parts(x));
        }
        D.due("digest of rounds that differ much", crossed().digest(), parts(crossed()));
        D.due("digest of a new object", new UnguessedRound().digest(), parts(new UnguessedRound()));
        findingsAreNotInIt();
    }

    /** What is in SHED 2 no thief has in both NIGHTS, so that the lots tell. */
    private static UnguessedRound crossed() {
        UnguessedRound x = Due.told("02;1342;12;12;21");
        x.set(0, 5);
        x.set(1, 20);
        x.way(0, 2, 9);
        x.way(1, 3, 7);
        x.way(3, 4, 7);
        x.way(4, 2, 7);
        for (int shed = 0; shed < 6; shed++) {
            x.worth(shed, shed == 2 ? 9 : shed == 5 ? 2 : 0);
        }
        D.due("the lots tell", x.breaks(0, 1, 6, 2), 90);
        return x;
    }

    private static void findingsAreNotInIt() {
        UnguessedRound x = new UnguessedRound();
        x.lose(0);
        D.due("digest with a finding", x.digest(), new UnguessedRound().digest());
        D.due("the finding behind it", x.count(8), 1);
    }

    private static long parts(UnguessedRound x) {
        java.util.List<Long> parts = new java.util.ArrayList<>();
        for (int what = 0; what < 8; what++) {
            parts.add((long) x.count(what));
        }
        parts.add((long) x.fault());
        for (int night = 0; night < x.count(0); night++) {
            nightParts(x, night, parts);
        }
        int all = x.count(0);
        parts.addAll(java.util.List.of(x.next(all, NONE, 0, 0), x.next(all, NONE, 0, 1)));
        parts.addAll(java.util.List.of(x.next(all, 1, 2, 0), x.next(all, 1, 2, 1)));
        for (int i = NONE; i < 6; i++) {
            parts.add((long) x.fresh(i));
        }
        lotParts(x, parts);
        long h = 17;
        for (long part : parts) {
            h = 31 * h + part;
        }
        return h;
    }

    private static void nightParts(UnguessedRound x, int night, java.util.List<Long> parts) {
        for (int i = 0; i < 6; i++) {
            parts.add((long) x.night(night, i));
        }
        for (int minute : new int[] {0, 7, 20}) {
            parts.add((long) x.at(night, minute));
        }
        for (int shed = 0; shed < 6; shed++) {
            parts.add((long) x.when(night, shed));
            parts.add((long) x.alone(night, shed, 0));
            parts.add((long) x.alone(night, shed, 1));
        }
        parts.add((long) x.steals(night, 1, 5));
        parts.addAll(java.util.List.of(x.likely(night, 0), x.likely(night, 1)));
        parts.addAll(java.util.List.of(x.dice(night, 4, 0), x.dice(night, 4, 1)));
    }

    private static void lotParts(UnguessedRound x, java.util.List<Long> parts) {
        for (int what = 0; what < 3; what++) {
            parts.add((long) x.breaks(0, 1, 6, what));
        }
        for (int what = 0; what < 3; what++) {
            parts.add((long) x.seen(0, 1, 6, 0, what));
        }
        for (int what = 0; what < 4; what++) {
            parts.add(x.least(0, 1, what));
        }
        parts.add((long) x.lamp(0, 1, 6, 2));
        parts.add((long) x.learn(0, 1, 20, 0));
        parts.add((long) x.learn(0, 1, 20, 1));
        parts.add((long) x.seeds(0));
        parts.add((long) x.seeds(1));
    }
}
