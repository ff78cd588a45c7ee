import java.util.function.Supplier;

/** Promises 30 and 31, sentence by sentence. */
public final class CountEdgesTest {
    private static final Due D = new Due();
    private static final int BAD = UnguessedRound.BAD, NOT = UnguessedRound.NOT, NONE = UnguessedRound.NONE;
    private static final long REFUSED = -9223372036854775806L;

    public static void main(String[] args) {
        nightsAndBytes();
        lookAndNeed();
        allWorths();
        allWays();
        stepsOfAllNights();
        countBesideTheNumbers();
        digestOfANewObject();
        digestWithAFault();
        digestOfOneNight();
        digestOfTwoNights();
        digestOfEightNights();
        digestChangesNothing();
        whatIsNotInTheDigest();
        D.end();
    }

    private static void nightsAndBytes() {
        UnguessedRound x = new UnguessedRound();
        String text = "0;1;2;3;4;5;0;1;9";
        for (int size = 1; size <= 60; size++) {
            x.type(size <= text.length() ? text.charAt(size - 1) : '0');
            D.due("bytes", x.count(1), size);
            D.due("nights of " + size + " bytes", x.count(0), size % 2 == 1 && size <= 15 ? size / 2 + 1 : 0);
        }
        x.type('0');
        D.due("bytes behind FULL", x.count(1), 60);
        x.wipe();
        D.due("bytes behind wipe", x.count(1), 0);
    }

    private static void lookAndNeed() {
        UnguessedRound x = new UnguessedRound();
        int[][] pairs = {{1, 20}, {5, 1}, {2, 6}};
        for (int[] pair : pairs) {
            x.set(0, pair[0]);
            x.set(1, pair[1]);
            D.due("LOOK", x.count(2), pair[0]);
            D.due("NEED", x.count(3), pair[1]);
        }
    }

    private static void allWorths() {
        UnguessedRound x = new UnguessedRound();
        for (int shed = 0; shed < 6; shed++) {
            x.worth(shed, 99);
            D.due("worths with 99 up to " + shed, x.count(4), 60 + 89 * (shed + 1));
        }
        for (int shed = 5; shed >= 0; shed--) {
            x.worth(shed, 0);
            D.due("worths with 0 down to " + shed, x.count(4), 99 * shed);
        }
    }

    /** "all WAYS (of any two SHEDS once)": 15 of them, from 15 to 135. */
    private static void allWays() {
        UnguessedRound x = new UnguessedRound();
        int sum = 45;
        for (int a = 0; a < 6; a++) {
            for (int b = a + 1; b < 6; b++) {
                x.way(a, b, 9);
                sum += 6;
                D.due("ways up to " + a + ", " + b, x.count(5), sum);
            }
        }
        D.due("all the longest", x.count(5), 135);
        for (int a = 5; a >= 0; a--) {
            for (int b = 0; b < a; b++) {
                x.way(a, b, 1);
                sum -= 8;
                D.due("ways down to " + a + ", " + b, x.count(5), sum);
            }
        }
        D.due("all the shortest", x.count(5), 15);
    }

    /** "6 unlike STEPS of all NIGHTS, 7 all STEPS", those from the porch among them. */
    private static void stepsOfAllNights() {
        stepsOf("", 0, 0);
        stepsOf("3", 1, 1);
        stepsOf("3;3", 1, 2);
        stepsOf("3;13", 3, 3);
        stepsOf("01;10", 4, 4);
        stepsOf("01;01;01", 2, 6);
        stepsOf("01;01;", 0, 0);
        stepsOf("012345", 6, 6);
        stepsOf("012345;".repeat(7) + "012345", 6, 48);
        stepsOf("015243;120354;231405;342510;453021;504132", 36, 36);
        stepsOf("015243;120354;231405;342510;453021;504132;0;543210", 36, 43);
    }

    private static void stepsOf(String nights, int unlike, int all) {
        UnguessedRound x = Due.told(nights);
        D.due("all steps of '" + nights + "'", x.count(7), all);
        D.due("unlike steps of '" + nights + "'", x.count(6), unlike);
    }

    private static void countBesideTheNumbers() {
        for (String nights : new String[] {"", "0;", "012345;3"}) {
            for (int what : new int[] {-1, 9, Integer.MIN_VALUE, Integer.MAX_VALUE}) {
                D.refused("count " + what, () -> Due.told(nights), x -> x.count(what), BAD, Due.NO_FINDING);
            }
        }
    }

    private static long hash(long... parts) {
        long h = 17;
        for (long part : parts) {
            h = 31 * h + part;
        }
        return h;
    }

    /** What is told of a new object, put down by hand; refusals as they are told. */
    private static void digestOfANewObject() {
        long due = hash(0, 0, 2, 6, 60, 45, 0, 0, NONE,
            1, 6, 1, 5, 720, 0, 1, 2, 3, 4, 5,
            BAD, BAD, BAD, BAD, BAD, BAD, REFUSED, REFUSED, REFUSED, REFUSED, BAD, BAD, BAD, 100, 0);
        D.due("digest of a new object", new UnguessedRound().digest(), due);
        UnguessedRound x = Due.told("01;10");
        x.wipe();
        D.due("digest behind wipe", x.digest(), due);
    }

    private static void digestWithAFault() {
        long due = hash(0, 6, 2, 6, 60, 45, 0, 0, 6,
            1, 6, 1, 5, 720, 0, 1, 2, 3, 4, 5,
            BAD, BAD, BAD, BAD, BAD, BAD, REFUSED, REFUSED, REFUSED, REFUSED, BAD, BAD, BAD, 100, 0);
        D.due("digest with a FAULT", Due.told("01;10;").digest(), due);
    }

    /** NIGHT 2 alone; NEED 20, so that steals(0, 1, 5) is what is in SHED 1. */
    private static void digestOfOneNight() {
        UnguessedRound x = Due.told("2");
        x.set(1, 20);
        x.worth(1, 33);
        long due = hash(1, 1, 2, 20, 83, 45, 1, 1, NONE,
            2, NONE, NONE, NONE, NONE, NONE, 2, NONE, NONE,
            NONE, 60, 0, NONE, 60, 0, 0, 58, 2, NONE, 60, 0, NONE, 60, 0, NONE, 60, 0,
            33, 1, 6, 1, 4,
            1, 7, 1, 5, 600, 0, 1, 2, 3, 4, 5,
            BAD, BAD, BAD, BAD, BAD, BAD, REFUSED, REFUSED, REFUSED, REFUSED, BAD, BAD, BAD, 50, 0);
        D.due("digest of one NIGHT", x.digest(), due);
    }

    /**
     * NIGHTS 12 and 3; no lot begins with SHED 0. Thieves have 10 in SHED 0 from MINUTE 0 on, whichever is gone.
     */
    private static void digestOfTwoNights() {
        UnguessedRound x = Due.told("12;3");
        long due = hash(2, 4, 2, 6, 60, 45, 3, 3, NONE,
            1, 2, NONE, NONE, NONE, NONE, 1, NONE, NONE,
            NONE, 60, 0, 0, 58, 2, 5, 53, 7, NONE, 60, 0, NONE, 60, 0, NONE, 60, 0,
            10, 1, 30, 3, 8,
            3, NONE, NONE, NONE, NONE, NONE, 3, NONE, NONE,
            NONE, 60, 0, NONE, 60, 0, NONE, 60, 0, 0, 58, 2, NONE, 60, 0, NONE, 60, 0,
            10, 1, 7, 3, 8,
            1, 8, 1, 3, 408, 0, 1, 3, 2, 4, 5,
            0, 0, 160, NOT, NOT, NOT, 0, 1, 10, 1, 0, 20, 200, 25, 2);
        D.due("digest of two NIGHTS", x.digest(), due);
    }

    /** The last of eight is in it: another one there, or at the other end, is another digest. */
    private static void digestOfEightNights() {
        String[] texts = {"0;1;2;3;4;5;01;12345", "0;1;2;3;4;5;01;12354", "0;1;2;3;4;5;01;1234", "0;1;2;3;4;5;10;12345"};
        for (int i = 0; i < texts.length; i++) {
            for (int j = 0; j < i; j++) {
                boolean same = Due.told(texts[i]).digest() == Due.told(texts[j]).digest();
                D.due("digests of " + texts[i] + " and " + texts[j] + " are the same", same ? 1 : 0, 0);
            }
            D.due("digest again", Due.told(texts[i]).digest(), Due.told(texts[i]).digest());
        }
    }

    private static void digestChangesNothing() {
        for (String nights : new String[] {"", "0;", "12;3", "01;10;012;021;102;120;201;210"}) {
            Supplier<UnguessedRound> made = () -> {
                UnguessedRound x = Due.told(nights);
                x.sheet(0, 2, 3);
                x.lose(2);
                return x;
            };
            long due = made.get().digest();
            D.refused("digest", made, x -> x.digest(), due, Due.NO_FINDING);
            UnguessedRound twice = made.get();
            twice.digest();
            D.due("digest twice", twice.digest(), due);
        }
    }

    /** SHEETS and FINDINGS are not told of, nor what stands behind a FAULT, but for how many bytes. */
    private static void whatIsNotInTheDigest() {
        long due = new UnguessedRound().digest();
        UnguessedRound x = new UnguessedRound();
        x.lose(0);
        x.sheet(1, 2, 48);
        x.put(1, 2, 0, 7);
        D.due("digest with sheets", x.digest(), due);
        D.due("digest of other bytes behind a FAULT", Due.told("09123").digest(), Due.told("08;xy").digest());
    }
}
