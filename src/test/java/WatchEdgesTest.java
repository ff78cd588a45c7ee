import java.util.function.Supplier;

/** "A NIGHT has MINUTES 0 to 59 ..", NEED and ALONE, and promises 10 to 13, sentence by sentence. */
public final class WatchEdgesTest {
    private static final Due D = new Due();
    private static final int NONE = UnguessedRound.NONE, BAD = UnguessedRound.BAD;

    public static void main(String[] args) {
        atItsFirstShedInMinuteZero();
        staysLookMinutesAtEach();
        goesByTheWayAndIsNowhereThen();
        homeBehindTheLastOne();
        minutesBeyondTheNight();
        allMinutesOfALongRound();
        firstMinuteAtAShed();
        notInItOrBeyond59();
        aloneNotInIt();
        aloneAtTheEdgesOfTheNight();
        aloneOfLikeOnesTheFirst();
        aloneBesideTheNumbers();
        stealsFromMinuteZeroToTheLast();
        stealsIfTheWatchIsThereInNone();
        stealsByNeedAndLook();
        stealsAtTheEndOfTheNight();
        stealsTheWorth();
        noSuchNight();
        D.end();
    }

    private static void atItsFirstShedInMinuteZero() {
        for (int shed = 0; shed < 6; shed++) {
            UnguessedRound x = Due.told(shed + ";" + (shed + 1) % 6 + shed);
            D.due("at in minute 0", x.at(0, 0), shed);
            D.due("at in minute 0 of the other night", x.at(1, 0), (shed + 1) % 6);
            D.due("when at the first", x.when(0, shed), 0);
        }
    }

    /** "stays LOOK (1 to 5; 2 at first) MINUTES at each": the last MINUTE of a stay, and the first behind it. */
    private static void staysLookMinutesAtEach() {
        UnguessedRound first = Due.told("23");
        D.due("LOOK at first, its last minute", first.at(0, 1), 2);
        D.due("LOOK at first, behind it", first.at(0, 2), NONE);
        for (int look = 1; look <= 5; look++) {
            UnguessedRound x = Due.told("23");
            x.set(0, look);
            D.due("last minute at the first by LOOK " + look, x.at(0, look - 1), 2);
            D.due("the minute behind it by LOOK " + look, x.at(0, look), NONE);
            D.due("first minute at the next by LOOK " + look, x.at(0, look + 3), 3);
            D.due("last minute at the next by LOOK " + look, x.at(0, 2 * look + 2), 3);
            D.due("the minute behind that by LOOK " + look, x.at(0, 2 * look + 3), NONE);
        }
    }

    private static void goesByTheWayAndIsNowhereThen() {
        for (int way = 1; way <= 9; way++) {
            UnguessedRound x = Due.told("50");
            x.way(0, 5, way);
            D.due("ahead of way " + way, x.at(0, 1), 5);
            for (int minute = 2; minute < 2 + way; minute++) {
                D.due("on way " + way + " in minute " + minute, x.at(0, minute), NONE);
            }
            D.due("behind way " + way, x.at(0, 2 + way), 0);
            D.due("when behind way " + way, x.when(0, 0), 2 + way);
        }
    }

    private static void homeBehindTheLastOne() {
        UnguessedRound x = Due.told("4;14");
        for (int minute = 0; minute < 60; minute++) {
            D.due("round of one, minute " + minute, x.at(0, minute), minute < 2 ? 4 : NONE);
            int where = minute < 2 ? 1 : minute == 5 || minute == 6 ? 4 : NONE;
            D.due("round of two, minute " + minute, x.at(1, minute), where);
        }
    }

    private static void minutesBeyondTheNight() {
        Supplier<UnguessedRound> made = () -> Due.told("012345");
        for (int minute : new int[] {-1, 60, Integer.MIN_VALUE, Integer.MAX_VALUE}) {
            D.refused("at 0, " + minute, made, x -> x.at(0, minute), BAD, Due.NO_FINDING);
        }
        D.due("at in minute 59", made.get().at(0, 59), NONE);
        D.due("at in minute 0", made.get().at(0, 0), 0);
    }

    /** LOOK 5 and all WAYS 9, put down by hand: in MINUTE 56 the watch comes to the fifth, to the sixth never. */
    private static void allMinutesOfALongRound() {
        UnguessedRound x = slow("315204");
        int[] comes = {0, 14, 28, 42, 56};
        int[] shed = {3, 1, 5, 2, 0};
        for (int minute = 0; minute < 60; minute++) {
            int where = NONE;
            for (int i = 0; i < comes.length; i++) {
                where = minute >= comes[i] && minute <= comes[i] + 4 ? shed[i] : where;
            }
            D.due("long round, minute " + minute, x.at(0, minute), where);
        }
        for (int i = 0; i < comes.length; i++) {
            D.due("long round, when at " + shed[i], x.when(0, shed[i]), comes[i]);
        }
        D.due("long round, when at the last", x.when(0, 4), NONE);
    }

    private static UnguessedRound slow(String nights) {
        UnguessedRound x = Due.told(nights);
        x.set(0, 5);
        for (int a = 0; a < 6; a++) {
            for (int b = 0; b < a; b++) {
                x.way(a, b, 9);
            }
        }
        return x;
    }

    /** SHED 5 is come to in MINUTE 27, five times LOOK and the two WAYS. */
    private static UnguessedRound late(int look, int lastButOne, int last) {
        UnguessedRound x = slow("012345");
        x.set(0, look);
        x.way(3, 4, lastButOne);
        x.way(4, 5, last);
        return x;
    }

    private static void firstMinuteAtAShed() {
        UnguessedRound x = late(4, 9, 3);
        D.due("when in minute 59", x.when(0, 5), 59);
        D.due("at in minute 59", x.at(0, 59), 5);
        D.due("at in minute 58", x.at(0, 58), NONE);
        UnguessedRound y = late(4, 9, 2);
        D.due("when in minute 58", y.when(0, 5), 58);
    }

    /** "NONE: it is not in it, or beyond 59." */
    private static void notInItOrBeyond59() {
        UnguessedRound x = late(4, 9, 4);
        D.due("when in minute 60", x.when(0, 5), NONE);
        D.due("at in minute 59, it comes in 60", x.at(0, 59), NONE);
        D.due("when in minute 70", slow("012345").when(0, 5), NONE);
        UnguessedRound y = Due.told("024");
        for (int shed = 0; shed < 6; shed++) {
            D.due("when of " + shed + " in 024", y.when(0, shed), shed % 2 == 0 ? shed / 2 * 5 : NONE);
        }
        for (int shed : new int[] {-1, 6}) {
            D.refused("when 0, " + shed, () -> Due.told("024"), z -> z.when(0, shed), BAD, Due.NO_FINDING);
        }
    }

    /** "(60, 0 for a SHED that is not in it)", and of one that is come to beyond MINUTE 59. */
    private static void aloneNotInIt() {
        UnguessedRound x = Due.told("1;02345");
        for (int shed = 0; shed < 6; shed++) {
            if (shed != 1) {
                aloneOf("not in it", x, shed, 60, 0);
            }
        }
        D.due("in the other night, how many", x.alone(1, 1, 0), 60);
        D.due("in the other night, the first", x.alone(1, 1, 1), 0);
        aloneOf("in minute 60", late(4, 9, 4), 5, 60, 0);
        aloneOf("in minute 70", slow("012345"), 5, 60, 0);
    }

    private static void aloneAtTheEdgesOfTheNight() {
        for (int look = 1; look <= 5; look++) {
            UnguessedRound x = Due.told("3");
            x.set(0, look);
            aloneOf("first by LOOK " + look, x, 3, 60 - look, look);
        }
        aloneOf("in minute 59", late(4, 9, 3), 5, 59, 0);
        aloneOf("in minutes 58 and 59", late(4, 9, 2), 5, 58, 0);
        aloneOf("in minutes 56 to 60, cut at 59", slow("012345"), 4, 56, 0);
        aloneOf("in minute 60 by LOOK 3", late(3, 9, 9), 5, 60, 0);
    }

    /** SHED 4 is come to in MINUTE 4 LOOK and the four WAYS; the row ahead and the row behind are as told. */
    private static void aloneOfLikeOnesTheFirst() {
        aloneInTheMiddle(2, 28, 30, 30);
        aloneInTheMiddle(2, 29, 29, 0);
        aloneInTheMiddle(2, 30, 30, 0);
        aloneInTheMiddle(4, 27, 29, 31);
        aloneInTheMiddle(4, 28, 28, 0);
        aloneInTheMiddle(4, 29, 29, 0);
        aloneInTheMiddle(1, 29, 30, 30);
        aloneInTheMiddle(1, 30, 30, 0);
        aloneInTheMiddle(5, 27, 28, 32);
        aloneInTheMiddle(5, 28, 28, 0);
    }

    private static void aloneInTheMiddle(int look, int comes, int howMany, int first) {
        UnguessedRound x = Due.told("01234");
        x.set(0, look);
        int rest = comes - 4 * look;
        for (int shed = 0; shed < 4; shed++) {
            int way = Math.min(9, rest - (3 - shed));
            x.way(shed, shed + 1, way);
            rest -= way;
        }
        D.due("when by LOOK " + look, x.when(0, 4), comes);
        aloneOf("LOOK " + look + " from " + comes + " on", x, 4, howMany, first);
    }

    private static void aloneOf(String name, UnguessedRound x, int shed, int howMany, int first) {
        D.due("alone " + shed + ", " + name + ", how many", x.alone(0, shed, 0), howMany);
        D.due("alone " + shed + ", " + name + ", the first", x.alone(0, shed, 1), first);
    }

    private static void aloneBesideTheNumbers() {
        Supplier<UnguessedRound> made = () -> Due.told("01");
        for (int what : new int[] {-1, 2, Integer.MIN_VALUE, Integer.MAX_VALUE}) {
            D.refused("alone 0, 0, " + what, made, x -> x.alone(0, 0, what), BAD, Due.NO_FINDING);
        }
        for (int shed : new int[] {-1, 6}) {
            D.refused("alone 0, " + shed + ", 0", made, x -> x.alone(0, shed, 0), BAD, Due.NO_FINDING);
        }
    }

    /** "from a MINUTE on (0 to 60 less NEED)", for each NEED. */
    private static void stealsFromMinuteZeroToTheLast() {
        for (int need = 1; need <= 20; need++) {
            int n = need;
            Supplier<UnguessedRound> made = () -> needing("0", n);
            D.due("steals in minute 0 by NEED " + need, made.get().steals(0, 5, 0), 10);
            D.due("steals in the last by NEED " + need, made.get().steals(0, 5, 60 - need), 10);
            D.refused("steals behind the last by NEED " + need, made, x -> x.steals(0, 5, 61 - n), BAD, Due.NO_FINDING);
            D.refused("steals in minute -1 by NEED " + need, made, x -> x.steals(0, 5, -1), BAD, Due.NO_FINDING);
        }
        D.refused("steals in minute 55", () -> Due.told("0"), x -> x.steals(0, 5, 55), BAD, Due.NO_FINDING);
        D.refused("steals far ahead", () -> Due.told("0"), x -> x.steals(0, 5, Integer.MIN_VALUE), BAD, Due.NO_FINDING);
        D.refused("steals far behind", () -> Due.told("0"), x -> x.steals(0, 5, Integer.MAX_VALUE), BAD, Due.NO_FINDING);
        for (int shed : new int[] {-1, 6}) {
            D.refused("steals from " + shed, () -> Due.told("0"), x -> x.steals(0, shed, 0), BAD, Due.NO_FINDING);
        }
    }

    private static UnguessedRound needing(String nights, int need) {
        UnguessedRound x = Due.told(nights);
        x.set(1, need);
        return x;
    }

    /** The watch is at SHED 1 in MINUTES 11 and 12, NEED is 6: MINUTES 6 to 12 are the ones that fail. */
    private static void stealsIfTheWatchIsThereInNone() {
        UnguessedRound x = Due.told("01");
        x.way(0, 1, 9);
        for (int minute = 0; minute <= 54; minute++) {
            D.due("steals from 1 in minute " + minute, x.steals(0, 1, minute), minute >= 6 && minute <= 12 ? 0 : 10);
            D.due("steals from 0 in minute " + minute, x.steals(0, 0, minute), minute <= 1 ? 0 : 10);
            D.due("steals from 2 in minute " + minute, x.steals(0, 2, minute), 10);
        }
    }

    /** For each NEED and LOOK the last MINUTE ahead of the watch, the two that fail beside it, the first behind. */
    private static void stealsByNeedAndLook() {
        for (int look = 1; look <= 5; look++) {
            for (int need = 1; need <= 20; need++) {
                UnguessedRound x = needing("0123", need);
                x.set(0, look);
                x.way(0, 1, 9);
                x.way(1, 2, 9);
                x.way(2, 3, 9);
                int comes = 27 + 3 * look;
                String by = " by LOOK " + look + ", NEED " + need;
                D.due("steals just ahead" + by, x.steals(0, 3, comes - need), 10);
                D.due("steals too late" + by, x.steals(0, 3, comes - need + 1), 0);
                D.due("steals in its last minute" + by, minuteOr(x, comes + look - 1, need, 0), 0);
                D.due("steals just behind" + by, minuteOr(x, comes + look, need, 10), 10);
            }
        }
    }

    /** What a thief has in SHED 3 from a MINUTE on, or what is due where there is no time for it. */
    private static int minuteOr(UnguessedRound x, int minute, int need, int due) {
        return minute <= 60 - need ? x.steals(0, 3, minute) : due;
    }

    private static void stealsAtTheEndOfTheNight() {
        UnguessedRound in59 = late(4, 9, 3);
        in59.set(1, 1);
        D.due("steals in minute 58, the watch comes in 59", in59.steals(0, 5, 58), 10);
        D.due("steals in minute 59, the watch comes in 59", in59.steals(0, 5, 59), 0);
        in59.set(1, 20);
        D.due("steals to minute 58", in59.steals(0, 5, 39), 10);
        D.due("steals to minute 59", in59.steals(0, 5, 40), 0);
        UnguessedRound in60 = late(4, 9, 4);
        in60.set(1, 1);
        D.due("steals in minute 59, the watch comes in 60", in60.steals(0, 5, 59), 10);
        in60.set(1, 20);
        D.due("steals to minute 59, the watch comes in 60", in60.steals(0, 5, 40), 10);
    }

    /** "has its WORTH": the least, the most, and nothing where the watch is. */
    private static void stealsTheWorth() {
        for (int worth : new int[] {0, 1, 98, 99}) {
            UnguessedRound x = Due.told("3");
            x.worth(3, worth);
            x.worth(4, 99 - worth);
            D.due("steals " + worth, x.steals(0, 3, 2), worth);
            D.due("steals " + worth + " with the watch there", x.steals(0, 3, 1), 0);
            D.due("steals " + (99 - worth), x.steals(0, 4, 0), 99 - worth);
        }
    }

    private static void noSuchNight() {
        for (String nights : new String[] {"", "0;", "4", "0;1;2;3;4;5;0;1"}) {
            int all = Due.told(nights).count(0);
            for (int night : new int[] {-1, all, 8, Integer.MIN_VALUE, Integer.MAX_VALUE}) {
                String of = " " + night + " of '" + nights + "'";
                Supplier<UnguessedRound> made = () -> Due.told(nights);
                D.refused("at" + of, made, x -> x.at(night, 0), BAD, Due.NO_FINDING);
                D.refused("when" + of, made, x -> x.when(night, 0), BAD, Due.NO_FINDING);
                D.refused("alone" + of, made, x -> x.alone(night, 0, 0), BAD, Due.NO_FINDING);
                D.refused("steals" + of, made, x -> x.steals(night, 0, 0), BAD, Due.NO_FINDING);
            }
            UnguessedRound x = Due.told(nights);
            D.due("at in the last night of " + nights, x.at(all - 1, 59), all == 0 ? BAD : NONE);
        }
    }
}
