import java.util.ArrayList;
import java.util.List;
import java.util.function.Supplier;

/** STEPS, NEXT, LIKELY, NEW and FRACTIONS, and promises 14 to 16, sentence by sentence. */
public final class BookEdgesTest {
    private static final Due D = new Due();
    private static final int NONE = UnguessedRound.NONE, BAD = UnguessedRound.BAD;
    private static final String LIKE = "012345;".repeat(7) + "012345";
    private static final String SINGLES = "0;1;2;3;4;5;0;1";

    public static void main(String[] args) {
        behindNoNight();
        behindTheFirstKNights();
        fromThePorch();
        toItself();
        noStepBehindTheLast();
        nextIsInLowestTermsAndSumsToOne();
        nextBesideTheNumbers();
        likelyOfTheFirstNight();
        likelyByTheBookAhead();
        likelyOfLikeNights();
        likelyBesideTheNumbers();
        newWithoutNights();
        newByThePorchesSteps();
        newThatIsTheOnlyOne();
        newThatThereIsNot();
        newAgainstAllRows();
        newBesideTheNumbers();
        D.end();
    }

    /** "k NIGHTS (0 to all)": behind none each SHED is as likely as any other. */
    private static void behindNoNight() {
        for (String nights : new String[] {"", "0;", "012345", LIKE}) {
            UnguessedRound x = Due.told(nights);
            for (int b = 0; b < 6; b++) {
                nextOf(x, 0, NONE, b, 1, 6);
                for (int a = 0; a < 6; a++) {
                    nextOf(x, 0, a, b, a == b ? 0 : 1, a == b ? 1 : 5);
                }
            }
        }
    }

    private static void behindTheFirstKNights() {
        UnguessedRound x = Due.told(LIKE);
        for (int k = 0; k <= 8; k++) {
            nextOf(x, k, 0, 1, (k + 1) / divisor(k + 1, k + 5), (k + 5) / divisor(k + 1, k + 5));
            nextOf(x, k, 4, 5, (k + 1) / divisor(k + 1, k + 5), (k + 5) / divisor(k + 1, k + 5));
            nextOf(x, k, 1, 0, 1, k + 5);
        }
        UnguessedRound y = Due.told("01;10;2;01");
        nextOf(y, 1, 1, 0, 1, 5);
        nextOf(y, 2, 1, 0, 1, 3);
        nextOf(y, 3, 0, 1, 1, 3);
        nextOf(y, 4, 0, 1, 3, 7);
        D.refused("next behind 5 of 4", () -> Due.told("01;10;2;01"), z -> z.next(5, 0, 1, 0), Due.LONG_BAD, 0);
        D.refused("next behind -1", () -> Due.told("01;10;2;01"), z -> z.next(-1, 0, 1, 0), Due.LONG_BAD, 0);
        D.refused("next behind 9 of 8", () -> Due.told(LIKE), z -> z.next(9, 0, 1, 0), Due.LONG_BAD, 0);
    }

    /** "(from the porch 6)". */
    private static void fromThePorch() {
        UnguessedRound x = Due.told(SINGLES);
        nextOf(x, 1, NONE, 0, 2, 7);
        nextOf(x, 6, NONE, 5, 1, 6);
        nextOf(x, 7, NONE, 0, 3, 13);
        nextOf(x, 8, NONE, 1, 3, 14);
        nextOf(x, 8, NONE, 2, 1, 7);
        UnguessedRound y = Due.told("3;3;3;3;3;3;3;3");
        nextOf(y, 8, NONE, 3, 9, 14);
        nextOf(y, 8, NONE, 0, 1, 14);
    }

    /** "from a SHED to itself 0: a FRACTION", 0 by 1. */
    private static void toItself() {
        UnguessedRound x = Due.told(LIKE);
        for (int k = 0; k <= 8; k += 4) {
            for (int shed = 0; shed < 6; shed++) {
                nextOf(x, k, shed, shed, 0, 1);
            }
        }
    }

    private static void noStepBehindTheLast() {
        UnguessedRound x = Due.told("5;05;5;15");
        for (int b = 0; b < 5; b++) {
            nextOf(x, 4, 5, b, 1, 5);
        }
        D.due("all steps", x.count(7), 6);
        D.due("unlike steps", x.count(6), 5);
    }

    private static void nextIsInLowestTermsAndSumsToOne() {
        // All numbers up to 14 divide it.
        long whole = 360360;
        for (String nights : new String[] {"", LIKE, SINGLES, "01;10;02;20;01;10", "501234;512340;523401;534012;540123;5;5;5"}) {
            UnguessedRound x = Due.told(nights);
            int all = x.count(0);
            for (int a = NONE; a < 6; a++) {
                long sum = 0;
                for (int b = 0; b < 6; b++) {
                    long above = x.next(all, a, b, 0);
                    long below = x.next(all, a, b, 1);
                    D.due("lowest terms of " + a + ", " + b + " of " + nights, divisor(above, below), 1);
                    sum += above * (whole / below);
                }
                D.due("all that comes behind " + a + " of " + nights, sum, whole);
            }
        }
    }

    private static void nextBesideTheNumbers() {
        Supplier<UnguessedRound> made = () -> Due.told("01;2");
        UnguessedRound x = made.get();
        D.due("next from SHED 5 to SHED 0", x.next(2, 5, 0, 0), 1);
        D.due("next from SHED 0 to SHED 5", x.next(2, 0, 5, 1), 6);
        int[][] bad = {{2, -2, 0, 0}, {2, 6, 0, 0}, {2, 0, -1, 0}, {2, NONE, NONE, 0}, {2, 0, 6, 0}, {2, 6, 6, 0},
            {2, 0, 1, -1}, {2, 0, 1, 2}, {2, 1, 1, 2}, {3, 1, 1, 0}};
        for (int[] b : bad) {
            String call = "next " + b[0] + ", " + b[1] + ", " + b[2] + ", " + b[3];
            D.refused(call, made, y -> y.next(b[0], b[1], b[2], b[3]), Due.LONG_BAD, Due.NO_FINDING);
        }
        D.due("a refusal -2 is the least long and 2 more", x.next(3, 0, 1, 0), -9223372036854775806L);
    }

    private static void likelyOfTheFirstNight() {
        String all = "405231";
        long below = 6;
        for (int length = 1; length <= 6; length++) {
            likelyOf(Due.told(all.substring(0, length)), 0, 1, below);
            likelyOf(Due.told(all.substring(0, length) + ";" + all + ";" + all), 0, 1, below);
            below *= 5;
        }
    }

    /** "NEXT by THE BOOK behind those ahead of it, of all its STEPS": neither by itself nor by later ones. */
    private static void likelyByTheBookAhead() {
        UnguessedRound x = Due.told("01;01;10;2");
        likelyOf(x, 0, 1, 30);
        likelyOf(x, 1, 2, 21);
        likelyOf(x, 2, 1, 8 * 5);
        likelyOf(x, 3, 1, 9);
        UnguessedRound y = Due.told("012345;".repeat(7) + "543210");
        likelyOf(y, 7, 1, 13L * 5 * 12 * 12 * 12 * 12);
    }

    private static void likelyOfLikeNights() {
        UnguessedRound single = Due.told("0;0;0;0;0;0;0;0");
        long[][] singles = {{1, 6}, {2, 7}, {3, 8}, {4, 9}, {1, 2}, {6, 11}, {7, 12}, {8, 13}};
        UnguessedRound whole = Due.told(LIKE);
        for (int night = 0; night < 8; night++) {
            likelyOf(single, night, singles[night][0], singles[night][1]);
            long above = night + 1;
            long below = night + 6;
            for (int step = 0; step < 5; step++) {
                above *= night + 1;
                below *= night + 5;
            }
            long divisor = divisor(above, below);
            likelyOf(whole, night, above / divisor, below / divisor);
        }
        likelyOf(whole, 7, 256, 3159);
    }

    private static void likelyBesideTheNumbers() {
        for (String nights : new String[] {"", "0;", "01", SINGLES}) {
            int all = Due.told(nights).count(0);
            Supplier<UnguessedRound> made = () -> Due.told(nights);
            for (int night : new int[] {-1, all, 8}) {
                D.refused("likely " + night + " of " + nights, made, x -> x.likely(night, 0), Due.LONG_BAD, 0);
            }
            for (int what : new int[] {-1, 2}) {
                D.refused("likely 0, " + what + " of " + nights, made, x -> x.likely(0, what), Due.LONG_BAD, 0);
            }
        }
    }

    private static void newWithoutNights() {
        freshOf("", 720, "012345");
        freshOf("0;", 720, "012345");
        freshOf("012345;012344", 720, "012345");
        UnguessedRound x = Due.told("543210");
        x.wipe();
        D.due("new behind wipe", x.fresh(NONE), 720);
    }

    /** "(the porch's, too)". */
    private static void newByThePorchesSteps() {
        freshOf("0", 600, "102345");
        freshOf("5", 600, "012345");
        freshOf("5;0;4;1;3", 120, "201345");
        freshOf("0;1;2;3;4", 120, "501234");
        freshOf("1;2;3;4;5", 120, "012345");
    }

    private static void newThatIsTheOnlyOne() {
        freshOf("532104;5;235041;302451;241503;345102;53;413205", 1, "012543");
        freshOf("042315;345120;054213;104325", 1, "530241");
        freshOf("341025;521304;124305;053142", 1, "235401");
        freshOf("05;541032;304251;354021;135240;241350", 1, "453120");
        freshOf("142503;104325;401235;451302", 2, "205341");
    }

    /** "NONE: there is none", for each i: by the porch alone, and where it leaves some to begin with. */
    private static void newThatThereIsNot() {
        freshOf("0;1;2;3;4;5", 0, null);
        freshOf("315240;413025;320145;0;042153", 0, null);
        freshOf("320415;302145;324501;102543;154023;135042", 0, null);
    }

    private static void newAgainstAllRows() {
        String[] texts = {LIKE, SINGLES, "01;12;23;34;45;50", "10;21;32;43;54;05", "0123;2345;4501", "54;35;25;15;05",
            "543210;432105;321054", "142503;104325;401235;451302", "021;031;041;051"};
        for (String nights : texts) {
            List<String> rows = new ArrayList<>();
            addRows("p", ";p" + nights.replace(";", ";p"), rows);
            freshOf(nights, rows.size(), rows.isEmpty() ? null : rows.get(0).substring(1));
        }
    }

    private static void addRows(String begun, String nights, List<String> rows) {
        if (begun.length() == 7) {
            rows.add(begun);
            return;
        }
        for (char shed = '0'; shed <= '5'; shed++) {
            String step = begun.substring(begun.length() - 1) + shed;
            if (begun.indexOf(shed) < 0 && !nights.contains(step)) {
                addRows(begun + shed, nights, rows);
            }
        }
    }

    private static void newBesideTheNumbers() {
        for (String nights : new String[] {"", "0;", "0;1;2;3;4;5", "012345"}) {
            for (int i : new int[] {-2, 6, Integer.MIN_VALUE, Integer.MAX_VALUE}) {
                D.refused("fresh " + i + " of " + nights, () -> Due.told(nights), x -> x.fresh(i), BAD, Due.NO_FINDING);
            }
        }
    }

    private static void nextOf(UnguessedRound x, int k, int a, int b, long above, long below) {
        String call = "next " + k + ", " + a + ", " + b;
        D.due(call + ", above", x.next(k, a, b, 0), above);
        D.due(call + ", below", x.next(k, a, b, 1), below);
    }

    private static void likelyOf(UnguessedRound x, int night, long above, long below) {
        D.due("likely " + night + ", above", x.likely(night, 0), above);
        D.due("likely " + night + ", below", x.likely(night, 1), below);
    }

    /** How many NEW rows, and which is the least; null: there is none. */
    private static void freshOf(String nights, int rows, String least) {
        UnguessedRound x = Due.told(nights);
        for (int i = 0; i < 6; i++) {
            D.due("fresh " + i + " of '" + nights + "'", x.fresh(i), least == null ? NONE : least.charAt(i) - '0');
        }
        D.due("fresh rows of '" + nights + "'", x.fresh(NONE), rows);
    }

    private static long divisor(long a, long b) {
        return b == 0 ? a : divisor(b, a % b);
    }
}
