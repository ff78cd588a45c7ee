import java.util.function.Supplier;

/** LOTS of two NIGHTS: BREAK, SEEN, LEAST, LAMP and LEARN, and promises 17 to 21, sentence by sentence. */
public final class LotsEdgesTest {
    private static final Due D = new Due();
    private static final int BAD = UnguessedRound.BAD, NOT = UnguessedRound.NOT;

    public static void main(String[] args) {
        byZeroAndBySixteenSixteenths();
        byWhichOneHasNothingToo();
        ofLikeOnesTheLeastShedThenMinute();
        theFirstAndTheLastMinute();
        breaksOfOneNightTwice();
        breaksBesideTheNumbers();
        seenFromMinuteOneOn();
        seenByTheSixteenthsThatAreLeft();
        seenNotAtAll();
        seenOfNothing();
        seenBadGoesAheadOfNot();
        leastOfAllLots();
        leastOfLikeOnesTheLeastOfA();
        leastIsNotOfSixteenthsAlone();
        leastBesideTheNumbers();
        lampByAllSixteenths();
        lampFromMinuteZeroToTheLast();
        lampWhereNothingIsMissed();
        lampBesideTheNumbers();
        learnFromTheFirstNightOn();
        learnOfLikeOnes();
        learnUpTo99();
        learnBesideTheNumbers();
        noSuchNights();
        D.end();
    }

    /**
     * NEED 20, LOOK 5; something is in SHED 1 and in SHED 5 alone. The watch is at SHED 1 in MINUTES 14 to 18 of
     * NIGHT 0 (a thief has it from MINUTE 19 on) and 36 to 40 of NIGHT 1 (he has it up to MINUTE 16), at SHED 5 never.
     */
    private static UnguessedRound crossed(int inOne, int inFive) {
        return crossed(inOne, inFive, 7);
    }

    private static UnguessedRound crossed(int inOne, int inFive, int lastWay) {
        UnguessedRound x = Due.told("01;0231");
        x.set(0, 5);
        x.set(1, 20);
        x.way(0, 1, 9);
        x.way(0, 2, 7);
        x.way(2, 3, 7);
        x.way(3, 1, lastWay);
        for (int shed = 0; shed < 6; shed++) {
            x.worth(shed, shed == 1 ? inOne : shed == 5 ? inFive : 0);
        }
        return x;
    }

    /** The watch is at SHED 1 in MINUTES 20 to 24 and 36 to 40: from MINUTE 0 alone a thief has it in both. */
    private static UnguessedRound onceFromMinuteZero(int worth) {
        UnguessedRound x = Due.told("021;0341");
        x.set(0, 5);
        x.set(1, 20);
        x.way(0, 2, 5);
        x.way(2, 1, 5);
        x.way(0, 3, 7);
        x.way(3, 4, 7);
        x.way(4, 1, 7);
        for (int shed = 0; shed < 6; shed++) {
            x.worth(shed, shed == 1 ? worth : 0);
        }
        return x;
    }

    /** "a is gone by p sixteenths (0 to 16), else b"; "sixteen times the mean". */
    private static void byZeroAndBySixteenSixteenths() {
        for (int p = 0; p <= 16; p++) {
            UnguessedRound x = crossed(99, 0);
            breakOf(x, p, 1, p > 8 ? 19 : 0, 99 * Math.max(p, 16 - p));
        }
        breakOf(crossed(50, 50), 0, 1, 0, 800);
        breakOf(crossed(50, 50), 16, 1, 19, 800);
        breakOf(crossed(50, 50), 1, 5, 0, 800);
        breakOf(crossed(50, 50), 15, 5, 0, 800);
    }

    private static void byWhichOneHasNothingToo() {
        for (String nights : new String[] {"0;0", "01;10", "5;4", "012345;543210"}) {
            UnguessedRound x = poor(nights);
            for (int p = 0; p <= 16; p += 8) {
                breakOf(x, p, 0, 0, 0);
            }
            x.set(1, 20);
            x.set(0, 5);
            breakOf(x, 8, 0, 0, 0);
        }
    }

    private static UnguessedRound poor(String nights) {
        UnguessedRound x = Due.told(nights);
        for (int shed = 0; shed < 6; shed++) {
            x.worth(shed, 0);
        }
        return x;
    }

    private static void ofLikeOnesTheLeastShedThenMinute() {
        UnguessedRound x = Due.told("0;0");
        breakOf(x, 8, 0, 2, 160);
        x.worth(0, 9);
        breakOf(x, 8, 1, 0, 160);
        x.worth(5, 11);
        breakOf(x, 8, 5, 0, 176);
        x.worth(4, 11);
        breakOf(x, 8, 4, 0, 176);
        UnguessedRound y = crossed(8, 4);
        breakOf(y, 8, 1, 0, 64);
        breakOf(y, 9, 1, 19, 72);
        y.worth(0, 4);
        breakOf(y, 8, 0, 5, 64);
        UnguessedRound z = poor("01;0");
        z.worth(5, 1);
        z.worth(3, 1);
        breakOf(z, 8, 3, 0, 16);
        breakOf(z, 0, 3, 0, 16);
    }

    /** "from a MINUTE on (0 to 60 less NEED)": BREAKS that are well from the first or the last of these alone. */
    private static void theFirstAndTheLastMinute() {
        breakOf(onceFromMinuteZero(7), 8, 1, 0, 112);
        breakOf(crossed(7, 0, 6), 8, 1, 40, 112);
        breakOf(crossed(7, 0, 7), 8, 1, 0, 56);
    }

    private static void breaksOfOneNightTwice() {
        UnguessedRound x = crossed(9, 2);
        for (int p = 0; p <= 16; p += 4) {
            D.due("breaks 0, 0, " + p + ", shed", x.breaks(0, 0, p, 0), 1);
            D.due("breaks 0, 0, " + p + ", minute", x.breaks(0, 0, p, 1), 19);
            D.due("breaks 0, 0, " + p + ", mean", x.breaks(0, 0, p, 2), 144);
            D.due("breaks 1, 0, " + p + ", mean", x.breaks(1, 0, p, 2), 9 * Math.max(p, 16 - p));
        }
    }

    private static void breakOf(UnguessedRound x, int p, int shed, int minute, int mean) {
        D.due("breaks by " + p + ", shed", x.breaks(0, 1, p, 0), shed);
        D.due("breaks by " + p + ", minute", x.breaks(0, 1, p, 1), minute);
        D.due("breaks by " + p + ", mean", x.breaks(0, 1, p, 2), mean);
    }

    private static void breaksBesideTheNumbers() {
        int[][] bad = {{-1, 0, 8, 0}, {2, 0, 8, 0}, {0, -1, 8, 0}, {0, 2, 8, 0}, {0, 1, -1, 0}, {0, 1, 17, 0},
            {0, 1, 8, -1}, {0, 1, 8, 3}, {0, 1, -1, 3}, {2, 2, 17, 3}};
        for (int[] b : bad) {
            String call = "breaks " + b[0] + ", " + b[1] + ", " + b[2] + ", " + b[3];
            D.refused(call, () -> crossed(9, 2), x -> x.breaks(b[0], b[1], b[2], b[3]), BAD, Due.NO_FINDING);
        }
    }

    /** "thieves break in from MINUTE 1 on then". */
    private static void seenFromMinuteOneOn() {
        UnguessedRound x = onceFromMinuteZero(7);
        seenOf(x, 0, 1, 8, 0, 1, 1, 56);
        seenOf(x, 0, 1, 9, 0, 1, 25, 63);
        seenOf(x, 0, 1, 7, 0, 1, 1, 63);
        breakOf(x, 8, 1, 0, 112);
        UnguessedRound last = crossed(7, 0, 6);
        seenOf(last, 0, 1, 8, 0, 1, 40, 112);
        UnguessedRound never = poor("0;0");
        never.worth(4, 99);
        seenOf(never, 0, 1, 8, 0, 4, 1, 1584);
        never.set(0, 1);
        never.worth(0, 99);
        seenOf(never, 0, 1, 8, 0, 0, 1, 1584);
        never.set(0, 2);
        seenOf(never, 0, 1, 8, 0, 0, 2, 1584);
    }

    /** "of both NIGHTS that begin so, by their sixteenths"; "sixteenths of what is left are as they are". */
    private static void seenByTheSixteenthsThatAreLeft() {
        for (int p = 0; p <= 16; p++) {
            UnguessedRound both = crossed(9, 2);
            seenOf(both, 0, 1, p, 0, 1, p > 8 ? 19 : 1, 9 * Math.max(p, 16 - p));
            UnguessedRound one = Due.told("01;10");
            one.worth(4, 30);
            seenOf(one, 0, 1, p, 0, p == 0 ? NOT : 4, p == 0 ? NOT : 1, p == 0 ? NOT : 30 * p);
            seenOf(one, 0, 1, p, 1, p == 16 ? NOT : 4, p == 16 ? NOT : 1, p == 16 ? NOT : 30 * (16 - p));
            seenOf(one, 0, 0, p, 0, 4, 1, 480);
            seenOf(one, 1, 1, p, 1, 4, 1, 480);
        }
    }

    /** "NOT: none of them with any begins so". */
    private static void seenNotAtAll() {
        UnguessedRound x = Due.told("012;12;20");
        for (int shed = 0; shed < 6; shed++) {
            for (int p = 0; p <= 16; p += 4) {
                boolean left = shed == 0 && p > 0 || shed == 1 && p < 16;
                D.due("seen 0, 1, " + p + ", " + shed, x.seen(0, 1, p, shed, 2) == NOT ? 1 : 0, left ? 0 : 1);
            }
        }
        D.refused("seen of 5", () -> Due.told("01;12"), y -> y.seen(0, 1, 8, 5, 0), NOT, Due.NO_FINDING);
        D.refused("seen by no sixteenth", () -> Due.told("01;12"), y -> y.seen(0, 1, 0, 0, 0), NOT, Due.NO_FINDING);
        D.refused("seen by all sixteenths", () -> Due.told("01;12"), y -> y.seen(0, 1, 16, 1, 0), NOT, Due.NO_FINDING);
        D.refused("seen of one twice", () -> Due.told("01;12"), y -> y.seen(0, 0, 8, 1, 0), NOT, Due.NO_FINDING);
    }

    private static void seenOfNothing() {
        UnguessedRound x = poor("01;02");
        seenOf(x, 0, 1, 8, 0, 0, 1, 0);
        seenOf(x, 0, 1, 0, 0, 0, 1, 0);
        seenOf(x, 0, 1, 8, 1, NOT, NOT, NOT);
    }

    private static void seenBadGoesAheadOfNot() {
        Supplier<UnguessedRound> made = () -> Due.told("01;12");
        int[][] bad = {{-1, 1, 8, 5, 0}, {2, 1, 8, 5, 0}, {0, -1, 8, 5, 0}, {0, 2, 8, 5, 0}, {0, 1, -1, 5, 0},
            {0, 1, 17, 5, 0}, {0, 1, 0, -1, 0}, {0, 1, 0, 6, 0}, {0, 1, 8, 5, -1}, {0, 1, 8, 5, 3}, {0, 1, 0, 0, 3}};
        for (int[] b : bad) {
            String call = "seen " + b[0] + ", " + b[1] + ", " + b[2] + ", " + b[3] + ", " + b[4];
            D.refused(call, made, x -> x.seen(b[0], b[1], b[2], b[3], b[4]), BAD, Due.NO_FINDING);
        }
    }

    private static void seenOf(UnguessedRound x, int a, int b, int p, int shed, int... answers) {
        for (int what = 0; what < 3; what++) {
            String call = "seen " + a + ", " + b + ", " + p + ", " + shed + ", " + what;
            D.due(call, x.seen(a, b, p, shed, what), answers[what]);
        }
    }

    /** With w in SHED 1 and f in SHED 5 thieves have w times the greater of both chances, and f at any rate. */
    private static void leastOfAllLots() {
        for (int w : new int[] {0, 1, 2, 3, 4, 49, 50, 97, 98, 99}) {
            for (int f : new int[] {0, 1, 2, w / 2 - 1, w / 2, w / 2 + 1, w - 1, w, w + 1, 98, 99}) {
                if (f >= 0 && f <= 99) {
                    leastByFormula(w, f);
                }
            }
        }
    }

    private static void leastByFormula(int w, int f) {
        UnguessedRound x = crossed(w, f);
        if (f >= w) {
            leastOf(x, 0, 1, 0, 1, f, 1);
        } else if (2 * f >= w) {
            int divisor = divisor(w - f, w);
            leastOf(x, 0, 1, (w - f) / divisor, w / divisor, f, 1);
        } else {
            leastOf(x, 0, 1, 1, 2, w % 2 == 0 ? w / 2 : w, w % 2 == 0 ? 1 : 2);
            leastOf(x, 1, 0, 1, 2, w % 2 == 0 ? w / 2 : w, w % 2 == 0 ? 1 : 2);
        }
    }

    /** "of like ones with the least of a": all lots are alike (0 by 1), or all from one on. */
    private static void leastOfLikeOnesTheLeastOfA() {
        leastOf(crossed(9, 9), 0, 1, 0, 1, 9, 1);
        leastOf(crossed(9, 8), 0, 1, 1, 9, 8, 1);
        leastOf(crossed(9, 8), 1, 0, 1, 9, 8, 1);
        leastOf(crossed(9, 2), 0, 0, 0, 1, 9, 1);
        leastOf(crossed(9, 2), 1, 1, 0, 1, 9, 1);
        leastOf(crossed(0, 0), 0, 1, 0, 1, 0, 1);
        leastOf(onceFromMinuteZero(9), 0, 1, 0, 1, 9, 1);
        leastOf(crossed(9, 0, 6), 0, 1, 0, 1, 9, 1);
        leastOf(Due.told("012345;543210"), 0, 1, 0, 1, 10, 1);
    }

    /** "(fractions, not sixteenths alone)": no lot in sixteenths has as little. */
    private static void leastIsNotOfSixteenthsAlone() {
        leastOf(crossed(99, 98), 0, 1, 1, 99, 98, 1);
        UnguessedRound x = crossed(99, 98);
        D.due("by none of 16", x.breaks(0, 1, 0, 2), 16 * 99);
        D.due("by one of 16", x.breaks(0, 1, 1, 2), 16 * 98);
        leastOf(crossed(7, 5), 0, 1, 2, 7, 5, 1);
        leastOf(crossed(97, 49), 0, 1, 48, 97, 49, 1);
    }

    private static void leastBesideTheNumbers() {
        int[][] bad = {{-1, 0, 0}, {2, 0, 0}, {0, -1, 0}, {0, 2, 0}, {0, 1, -1}, {0, 1, 4}, {2, 2, 4}};
        for (int[] b : bad) {
            String call = "least " + b[0] + ", " + b[1] + ", " + b[2];
            D.refused(call, () -> crossed(9, 2), x -> x.least(b[0], b[1], b[2]), Due.LONG_BAD, Due.NO_FINDING);
        }
    }

    private static void leastOf(UnguessedRound x, int a, int b, long... answers) {
        for (int what = 0; what < 4; what++) {
            D.due("least " + a + ", " + b + ", " + what, x.least(a, b, what), answers[what]);
        }
    }

    /** "by how much the mean of BREAK is less then, sixteen times". */
    private static void lampByAllSixteenths() {
        for (int p = 0; p <= 16; p++) {
            int inOne = 9 * Math.max(p, 16 - p);
            D.due("lamp in 1 by " + p, crossed(9, 0).lamp(0, 1, p, 1), inOne);
            D.due("lamp in 1 by " + p + ", 8 in 5", crossed(9, 8).lamp(0, 1, p, 1), Math.max(0, inOne - 128));
            D.due("lamp in 5 by " + p + ", 8 in it", crossed(9, 8).lamp(0, 1, p, 5), Math.max(0, 128 - inOne));
            D.due("lamp in 0 by " + p, crossed(9, 8).lamp(0, 1, p, 0), 0);
        }
        UnguessedRound rich = poor("0;1");
        rich.worth(5, 99);
        D.due("lamp in the only one", rich.lamp(0, 1, 8, 5), 1584);
    }

    /** BREAKS that are well from MINUTE 0 or the last one alone, and ones that would be well a MINUTE beyond these. */
    private static void lampFromMinuteZeroToTheLast() {
        lampOf(onceFromMinuteZero(7), 112);
        lampOf(crossed(7, 0, 6), 112);
        lampOf(crossed(7, 0, 7), 56);
        UnguessedRound tooEarly = onceFromMinuteZero(7);
        tooEarly.way(0, 2, 4);
        lampOf(tooEarly, 56);
        lampOf(crossed(7, 0, 8), 56);
    }

    /** What thieves have in SHED 1 is all they have; then there is more in SHED 5. */
    private static void lampOf(UnguessedRound x, int inOne) {
        D.due("breaks by 8", x.breaks(0, 1, 8, 2), inOne);
        D.due("lamp in the only one", x.lamp(0, 1, 8, 1), inOne);
        x.worth(5, 20);
        D.due("lamp in 5", x.lamp(0, 1, 8, 5), 320 - inOne);
        D.due("lamp in 1", x.lamp(0, 1, 8, 1), 0);
    }

    private static void lampWhereNothingIsMissed() {
        UnguessedRound x = Due.told("0;1");
        UnguessedRound y = poor("0;1");
        for (int shed = 0; shed < 6; shed++) {
            D.due("lamp in " + shed + ", all alike", x.lamp(0, 1, 8, shed), 0);
            D.due("lamp in " + shed + ", nothing there", y.lamp(0, 1, 8, shed), 0);
        }
        D.due("breaks behind lamps", x.breaks(0, 1, 8, 2), 160);
        D.due("breaks behind lamps, the shed", x.breaks(0, 1, 8, 0), 0);
    }

    private static void lampBesideTheNumbers() {
        int[][] bad = {{-1, 0, 8, 0}, {2, 0, 8, 0}, {0, -1, 8, 0}, {0, 2, 8, 0}, {0, 1, -1, 0}, {0, 1, 17, 0},
            {0, 1, 8, -1}, {0, 1, 8, 6}};
        for (int[] b : bad) {
            String call = "lamp " + b[0] + ", " + b[1] + ", " + b[2] + ", " + b[3];
            D.refused(call, () -> crossed(9, 2), x -> x.lamp(b[0], b[1], b[2], b[3]), BAD, Due.NO_FINDING);
        }
    }

    /** Ahead of the first NIGHT nothing was gone: a, and SHED 0 from MINUTE 0 on, of like ones. */
    private static void learnFromTheFirstNightOn() {
        for (int look = 1; look <= 5; look++) {
            UnguessedRound x = Due.told("0;1");
            x.set(0, look);
            learnOf(x, 0, 1, 1, 1, 0);
            learnOf(x, 1, 0, 1, 1, 10);
        }
        learnOf(Due.told("10;01"), 0, 1, 1, 1, 0);
        UnguessedRound later = Due.told("10;01");
        later.way(0, 1, 4);
        learnOf(later, 0, 1, 1, 1, 10);
    }

    /**
     * NIGHTS 01 and 10: thieves take SHED 0 from 0, 2, 2, then 7 on, where they have it in both; by the first three
     * they have 0, 10, 10 in NIGHT 0 and nothing in NIGHT 1. The watch goes a while both have left alike, then b.
     */
    private static void learnOfLikeOnes() {
        UnguessedRound x = Due.told("01;10");
        int[][] answers = {{1, 1, 0}, {2, 2, 10}, {3, 2, 10}, {4, 2, 20}, {5, 2, 30}, {98, 2, 960}, {99, 2, 970}};
        for (int[] due : answers) {
            learnOf(x, 0, 1, due[0], due[1], due[2]);
        }
        learnOf(x, 0, 0, 99, 99, 980);
        learnOf(x, 1, 1, 99, 99, 980);
        learnOf(poor("0;1"), 0, 1, 99, 99, 0);
    }

    private static void learnUpTo99() {
        UnguessedRound x = poor("5;5");
        x.worth(0, 99);
        for (int n = 1; n <= 99; n++) {
            D.due("learn " + n + ", gone", x.learn(0, 1, n, 0), n);
            D.due("learn " + n + ", had", x.learn(0, 1, n, 1), 99 * n);
        }
    }

    private static void learnBesideTheNumbers() {
        int[][] bad = {{-1, 0, 9, 0}, {2, 0, 9, 0}, {0, -1, 9, 0}, {0, 2, 9, 0}, {0, 1, 0, 0}, {0, 1, 100, 0},
            {0, 1, -1, 0}, {0, 1, 9, -1}, {0, 1, 9, 2}};
        for (int[] b : bad) {
            String call = "learn " + b[0] + ", " + b[1] + ", " + b[2] + ", " + b[3];
            D.refused(call, () -> crossed(9, 2), x -> x.learn(b[0], b[1], b[2], b[3]), BAD, Due.NO_FINDING);
        }
    }

    private static void learnOf(UnguessedRound x, int a, int b, int n, int gone, int had) {
        D.due("learn " + a + ", " + b + ", " + n + ", gone", x.learn(a, b, n, 0), gone);
        D.due("learn " + a + ", " + b + ", " + n + ", had", x.learn(a, b, n, 1), had);
    }

    /** "BAD: also NIGHTS that there are not": none at all, with a FAULT, one where two are told of. */
    private static void noSuchNights() {
        for (String nights : new String[] {"", "0;", "0;1;00", "3"}) {
            Supplier<UnguessedRound> made = () -> Due.told(nights);
            String of = " of '" + nights + "'";
            D.refused("breaks" + of, made, x -> x.breaks(0, 1, 8, 0), BAD, Due.NO_FINDING);
            D.refused("breaks, the other way" + of, made, x -> x.breaks(1, 0, 8, 0), BAD, Due.NO_FINDING);
            D.refused("breaks by a alone" + of, made, x -> x.breaks(0, 1, 16, 0), BAD, Due.NO_FINDING);
            D.refused("breaks by b alone" + of, made, x -> x.breaks(1, 0, 0, 0), BAD, Due.NO_FINDING);
            D.refused("seen" + of, made, x -> x.seen(0, 1, 16, 3, 0), BAD, Due.NO_FINDING);
            D.refused("seen, the other way" + of, made, x -> x.seen(1, 0, 0, 3, 0), BAD, Due.NO_FINDING);
            D.refused("least" + of, made, x -> x.least(0, 1, 0), Due.LONG_BAD, Due.NO_FINDING);
            D.refused("least, the other way" + of, made, x -> x.least(1, 0, 0), Due.LONG_BAD, Due.NO_FINDING);
            D.refused("lamp" + of, made, x -> x.lamp(0, 1, 16, 0), BAD, Due.NO_FINDING);
            D.refused("lamp, the other way" + of, made, x -> x.lamp(1, 0, 0, 0), BAD, Due.NO_FINDING);
            D.refused("learn" + of, made, x -> x.learn(0, 1, 1, 0), BAD, Due.NO_FINDING);
            D.refused("learn, the other way" + of, made, x -> x.learn(1, 0, 1, 0), BAD, Due.NO_FINDING);
        }
        D.due("breaks of the last of eight", Due.told("0;1;2;3;4;5;0;1").breaks(7, 7, 8, 0), 0);
        D.due("breaks of a ninth", Due.told("0;1;2;3;4;5;0;1").breaks(7, 8, 8, 0), BAD);
    }

    private static int divisor(int a, int b) {
        return b == 0 ? a : divisor(b, a % b);
    }
}
