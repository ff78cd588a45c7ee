import java.util.function.Supplier;

/** SHEDS, WORTH, WAYS, LOOK and NEED, and promises 5 to 8, sentence by sentence. */
public final class HarbourEdgesTest {
    private static final Due D = new Due();
    private static final int BAD = UnguessedRound.BAD, NULL = -11;

    public static void main(String[] args) {
        worthFromZeroTo99();
        worthBesideThese();
        waysTheSameBothWays();
        waysFromOneToNine();
        waysBesideThese();
        noWayToItself();
        lookAndNeed();
        lookAndNeedBesideThese();
        readSixAtMost();
        readUpToTheFirstThatIsNoWorth();
        readByEachForm();
        readRefusals();
        D.end();
    }

    /** "WORTH (0 to 99; 10 at first)"; "what it was". */
    private static void worthFromZeroTo99() {
        for (int shed = 0; shed < 6; shed++) {
            UnguessedRound x = new UnguessedRound();
            D.due("worth of " + shed + " at first", x.worth(shed, 0), 10);
            D.due("all worths with none in " + shed, x.count(4), 50);
            D.due("worth of " + shed + " that was 0", x.worth(shed, 99), 0);
            D.due("all worths with 99 in " + shed, x.count(4), 149);
            D.due("worth of " + shed + " that was 99", x.worth(shed, 99), 99);
            for (int other = 0; other < 6; other++) {
                D.due("worth of " + other + " behind " + shed, x.worth(other, 1), other == shed ? 99 : 10);
            }
        }
    }

    private static void worthBesideThese() {
        for (int shed = 0; shed < 6; shed++) {
            int s = shed;
            for (int v : new int[] {-1, 100, Integer.MIN_VALUE, Integer.MAX_VALUE}) {
                D.refused("worth " + shed + ", " + v, UnguessedRound::new, x -> x.worth(s, v), BAD, Due.NO_FINDING);
            }
        }
        for (int v : new int[] {0, 99}) {
            D.refused("worth -1, " + v, UnguessedRound::new, x -> x.worth(-1, v), BAD, Due.NO_FINDING);
            D.refused("worth 6, " + v, UnguessedRound::new, x -> x.worth(6, v), BAD, Due.NO_FINDING);
        }
    }

    /** "WAYS between any two .. the same both ways; 3 at first". */
    private static void waysTheSameBothWays() {
        for (int a = 0; a < 6; a++) {
            for (int b = 0; b < 6; b++) {
                if (a != b) {
                    wayOfTwo(a, b);
                }
            }
        }
    }

    private static void wayOfTwo(int a, int b) {
        UnguessedRound x = new UnguessedRound();
        D.due("way " + a + ", " + b + " at first", x.way(a, b, 9), 3);
        D.due("all ways, one the longest", x.count(5), 51);
        D.due("way " + b + ", " + a + " is the same", x.way(b, a, 1), 9);
        D.due("all ways, one the shortest", x.count(5), 43);
        for (int c = 0; c < 6; c++) {
            for (int d = 0; d < c; d++) {
                boolean same = c == Math.max(a, b) && d == Math.min(a, b);
                D.due("way " + c + ", " + d + " behind " + a + ", " + b, x.way(c, d, 5), same ? 1 : 3);
            }
        }
        D.due("all ways are 5", x.count(5), 75);
        UnguessedRound gone = Due.told("" + a + b + ";" + b + a);
        gone.way(a, b, 7);
        D.due("when behind the way", gone.when(0, b), 9);
        D.due("when behind the way, the other way", gone.when(1, a), 9);
    }

    private static void waysFromOneToNine() {
        UnguessedRound x = new UnguessedRound();
        int was = 3;
        for (int v = 1; v <= 9; v++) {
            D.due("way 2, 4 becomes " + v, x.way(2, 4, v), was);
            was = v;
        }
    }

    private static void waysBesideThese() {
        for (int v : new int[] {0, 10, -1, Integer.MIN_VALUE, Integer.MAX_VALUE}) {
            D.refused("way 0, 5, " + v, UnguessedRound::new, x -> x.way(0, 5, v), BAD, Due.NO_FINDING);
            D.refused("way 5, 0, " + v, UnguessedRound::new, x -> x.way(5, 0, v), BAD, Due.NO_FINDING);
        }
        for (int shed : new int[] {-1, 6, Integer.MIN_VALUE, Integer.MAX_VALUE}) {
            D.refused("way " + shed + ", 5", UnguessedRound::new, x -> x.way(shed, 5, 4), BAD, Due.NO_FINDING);
            D.refused("way 0, " + shed, UnguessedRound::new, x -> x.way(0, shed, 4), BAD, Due.NO_FINDING);
        }
    }

    /** "BAD: also from one to itself". */
    private static void noWayToItself() {
        for (int shed = -1; shed <= 6; shed++) {
            int s = shed;
            for (int v : new int[] {0, 1, 3, 9, 10}) {
                D.refused("way " + s + " to itself, " + v, UnguessedRound::new, x -> x.way(s, s, v), BAD, Due.NO_FINDING);
            }
        }
    }

    /** "LOOK (1 to 5; 2 at first)", "NEED (1 to 20; 6 at first)"; "what it was". */
    private static void lookAndNeed() {
        UnguessedRound x = new UnguessedRound();
        int look = 2;
        for (int v = 1; v <= 5; v++) {
            D.due("LOOK becomes " + v, x.set(0, v), look);
            D.due("LOOK is " + v, x.count(2), v);
            D.due("NEED stands", x.count(3), 6);
            look = v;
        }
        int need = 6;
        for (int v = 1; v <= 20; v++) {
            D.due("NEED becomes " + v, x.set(1, v), need);
            D.due("NEED is " + v, x.count(3), v);
            D.due("LOOK stands", x.count(2), 5);
            need = v;
        }
    }

    private static void lookAndNeedBesideThese() {
        Supplier<UnguessedRound> made = UnguessedRound::new;
        for (int v : new int[] {0, 6, -1, Integer.MIN_VALUE, Integer.MAX_VALUE}) {
            D.refused("set 0, " + v, made, x -> x.set(0, v), BAD, Due.NO_FINDING);
        }
        for (int v : new int[] {0, 21, -1, Integer.MIN_VALUE, Integer.MAX_VALUE}) {
            D.refused("set 1, " + v, made, x -> x.set(1, v), BAD, Due.NO_FINDING);
        }
        for (int what : new int[] {-1, 2, Integer.MIN_VALUE, Integer.MAX_VALUE}) {
            D.refused("set " + what + ", 3", made, x -> x.set(what, 3), BAD, Due.NO_FINDING);
        }
    }

    /** "WORTHS of SHEDS 0 on by a SHEET, item by item .. six at most: how many". */
    private static void readSixAtMost() {
        for (int size : new int[] {0, 1, 5, 6, 7, 48}) {
            UnguessedRound x = withSheet(2, size, 40);
            int many = Math.min(size, 6);
            D.due("read " + size + " items", x.read(1), many);
            for (int shed = 0; shed < 6; shed++) {
                D.due("worth " + shed + " read of " + size, x.worth(shed, 0), shed < many ? 40 + shed : 10);
            }
            D.due("read leaves the sheet", x.lose(1), size);
        }
    }

    /** "up to the first that is not 0 to 99": behind it nothing is read. */
    private static void readUpToTheFirstThatIsNoWorth() {
        for (int v : new int[] {-1, 100, Integer.MIN_VALUE, Integer.MAX_VALUE}) {
            for (int first = 0; first < 7; first++) {
                UnguessedRound x = withSheet(2, 8, 20);
                x.put(1, 2, first, v);
                D.due("read with " + v + " as item " + first, x.read(1), Math.min(first, 6));
                for (int shed = 0; shed < 6; shed++) {
                    D.due("worth " + shed + " with " + v + " as " + first, x.worth(shed, 0), shed < first ? 20 + shed : 10);
                }
            }
        }
        for (int v : new int[] {0, 99}) {
            UnguessedRound x = withSheet(2, 6, 20);
            for (int i = 0; i < 6; i++) {
                x.put(1, 2, i, v);
            }
            D.due("read all " + v, x.read(1), 6);
            D.due("all worths are " + v, x.count(4), 6 * v);
        }
    }

    /** A byte of 255 is -1, and is no WORTH; a short of 256 is none, but a byte of 256 is 0. */
    private static void readByEachForm() {
        int[][] dueOf = {{255, 0, 0, 0}, {256, 1, 0, 0}, {127, 0, 0, 0}, {99, 1, 1, 1}, {65536, 1, 1, 0}, {65635, 1, 1, 0}};
        for (int[] due : dueOf) {
            for (int form = 0; form < 3; form++) {
                UnguessedRound x = new UnguessedRound();
                x.sheet(3, form, 1);
                x.put(3, form, 0, due[0]);
                D.due("read " + due[0] + " of form " + form, x.read(3), due[1 + form]);
            }
        }
    }

    private static void readRefusals() {
        UnguessedRound x = new UnguessedRound();
        D.due("BAD is no FINDING", x.read(4), BAD);
        D.due("the finding behind it", x.count(8), 0);
        for (int s : new int[] {-1, 4, Integer.MIN_VALUE, Integer.MAX_VALUE}) {
            D.refused("read " + s, () -> withSheet(0, 6, 3), y -> y.read(s), BAD, Due.NO_FINDING);
        }
        for (int s : new int[] {0, 2, 3}) {
            D.refused("read " + s + ", LOST", () -> withSheet(0, 6, 3), y -> y.read(s), NULL, 1);
        }
        UnguessedRound lost = withSheet(0, 6, 3);
        lost.lose(1);
        D.due("read one that was lost again", lost.read(1), NULL);
        D.due("its worths are not read", lost.count(4), 60);
        UnguessedRound empty = withSheet(0, 0, 3);
        D.due("an empty one is not LOST", empty.read(1), 0);
        D.due("and has no FINDING", empty.count(8), 0);
    }

    /** SHEET 1 with items from a number on. */
    private static UnguessedRound withSheet(int form, int size, int from) {
        UnguessedRound x = new UnguessedRound();
        x.sheet(1, form, size);
        for (int i = 0; i < size; i++) {
            x.put(1, form, i, from + i);
        }
        return x;
    }
}
