/** Promises 1 to 9: a new object, the text of NIGHTS, WORTHS, WAYS, LOOK and NEED. */
public final class NightsTest {
    private static final Due D = new Due();
    private static final int NONE = UnguessedRound.NONE, BAD = UnguessedRound.BAD, FULL = UnguessedRound.FULL;

    public static void main(String[] args) {
        constants();
        newObject();
        type();
        wipe();
        fault();
        worth();
        way();
        set();
        read();
        night();
        D.end();
    }

    private static void constants() {
        D.due("NONE", UnguessedRound.NONE, -1);
        D.due("BAD", UnguessedRound.BAD, -2);
        D.due("NOT", UnguessedRound.NOT, -3);
        D.due("FULL", UnguessedRound.FULL, -4);
    }

    private static void newObject() {
        UnguessedRound x = new UnguessedRound();
        int[] counts = {0, 0, 2, 6, 60, 45, 0, 0, 0};
        for (int what = 0; what < counts.length; what++) {
            D.due("new: count " + what, x.count(what), counts[what]);
        }
        for (int s = 0; s < 4; s++) {
            D.due("new: sheet " + s + " is lost", x.lose(s), -11);
        }
    }

    private static void type() {
        UnguessedRound x = new UnguessedRound();
        D.due("type below a byte", x.type(-1), BAD);
        D.due("type above a byte", x.type(256), BAD);
        D.due("type the least byte", x.type(0), 1);
        D.due("type the greatest byte", x.type(255), 2);
        for (int i = 3; i <= 60; i++) {
            D.due("type byte " + i, x.type('0'), i);
        }
        D.due("type a 61st", x.type('0'), FULL);
        D.due("BAD goes ahead of FULL", x.type(256), BAD);
        D.due("FULL changes nothing", x.count(1), 60);
    }

    private static void wipe() {
        UnguessedRound x = new UnguessedRound();
        D.due("wipe nothing", x.wipe(), 0);
        Due.type(x, "01;2");
        D.due("wipe", x.wipe(), 4);
        D.due("bytes behind wipe", x.count(1), 0);
        D.due("nights behind wipe", x.count(0), 0);
        D.due("fault behind wipe", x.fault(), NONE);
        Due.type(x, "7");
        D.due("wipe a fault", x.wipe(), 1);
        D.due("fault behind wiping it", x.fault(), NONE);
        D.due("type behind wipe", x.type('3'), 1);
        D.due("what was typed behind wipe", x.night(0, 0), 3);
    }

    private static void fault() {
        faultOf("", NONE, 0);
        faultOf("0", NONE, 1);
        faultOf("5", NONE, 1);
        faultOf("6", 0, 0);
        faultOf("/", 0, 0);
        faultOf("012345", NONE, 1);
        faultOf("0123450", 6, 0);
        faultOf("01 2", 2, 0);
        faultOf("010", 2, 0);
        faultOf("01;10", NONE, 2);
        faultOf("01;", 3, 0);
        faultOf("01;;2", 3, 0);
        faultOf(";", 0, 0);
        faultOf("01;1231;", 6, 0);
        faultOf("01;1231", 6, 0);
        faultOf("00;7", 1, 0);
        faultOf("0;1;2;3;4;5;0;1", NONE, 8);
        faultOf("0;1;2;3;4;5;0;1;", 16, 0);
        faultOf("0;1;2;3;4;5;0;1;2", 16, 0);
        faultOf("0;1;2;3;4;5;0;1;;", 16, 0);
        faultOf("0;1;2;3;4;5;0;1x", 15, 0);
        faultOf("012345;012345;012345;012345;012345;012345;012345;012345", NONE, 8);
    }

    private static void faultOf(String text, int fault, int nights) {
        UnguessedRound x = Due.told(text);
        D.due("fault of '" + text + "'", x.fault(), fault);
        D.due("nights of '" + text + "'", x.count(0), nights);
    }

    private static void worth() {
        UnguessedRound x = new UnguessedRound();
        D.due("worth at first", x.worth(5, 0), 10);
        D.due("worth that was least", x.worth(5, 99), 0);
        D.due("worth that was most", x.worth(5, 7), 99);
        D.due("worth of another", x.worth(0, 1), 10);
        D.due("all worths", x.count(4), 48);
        int[][] bad = {{-1, 1}, {6, 1}, {0, -1}, {0, 100}, {Integer.MIN_VALUE, 0}, {0, Integer.MAX_VALUE}};
        for (int[] b : bad) {
            D.due("worth " + b[0] + ", " + b[1], x.worth(b[0], b[1]), BAD);
        }
        D.due("BAD changes no worth", x.count(4), 48);
    }

    private static void way() {
        UnguessedRound x = new UnguessedRound();
        D.due("way at first", x.way(0, 5, 9), 3);
        D.due("way, the other way", x.way(5, 0, 1), 9);
        D.due("way that was least", x.way(0, 5, 2), 1);
        D.due("way of another pair", x.way(4, 3, 8), 3);
        D.due("all ways", x.count(5), 49);
        int[][] bad = {{-1, 1, 1}, {6, 1, 1}, {1, -1, 1}, {1, 6, 1}, {0, 1, 0}, {0, 1, 10}, {2, 2, 3}};
        for (int[] b : bad) {
            D.due("way " + b[0] + ", " + b[1] + ", " + b[2], x.way(b[0], b[1], b[2]), BAD);
        }
        D.due("BAD changes no way", x.count(5), 49);
    }

    private static void set() {
        UnguessedRound x = new UnguessedRound();
        D.due("LOOK at first", x.set(0, 5), 2);
        D.due("LOOK that was most", x.set(0, 1), 5);
        D.due("LOOK that was least", x.set(0, 4), 1);
        D.due("NEED at first", x.set(1, 20), 6);
        D.due("NEED that was most", x.set(1, 1), 20);
        D.due("NEED that was least", x.set(1, 7), 1);
        int[][] bad = {{0, 0}, {0, 6}, {1, 0}, {1, 21}, {-1, 1}, {2, 1}};
        for (int[] b : bad) {
            D.due("set " + b[0] + ", " + b[1], x.set(b[0], b[1]), BAD);
        }
        D.due("LOOK stands", x.count(2), 4);
        D.due("NEED stands", x.count(3), 7);
    }

    private static void read() {
        UnguessedRound x = new UnguessedRound();
        D.due("read below", x.read(-1), BAD);
        D.due("read above", x.read(4), BAD);
        D.due("BAD is no finding", x.count(8), 0);
        D.due("read what is lost", x.read(3), -11);
        D.due("its finding", x.count(8), 1);
        x.sheet(3, 2, 8);
        int[] items = {99, 0, 1, 100, 5, 6, 7, 8};
        for (int i = 0; i < items.length; i++) {
            x.put(3, 2, i, items[i]);
        }
        D.due("read up to one above", x.read(3), 3);
        D.due("worths read so", x.count(4), 130);
        x.put(3, 2, 3, 2);
        D.due("read six at most", x.read(3), 6);
        D.due("worth 0 read so", x.worth(0, 99), 99);
        D.due("worth 5 read so", x.worth(5, 6), 6);
        x.put(3, 2, 0, -1);
        D.due("read up to one below", x.read(3), 0);
        D.due("worth 0 stands", x.worth(0, 99), 99);
        x.sheet(0, 0, 2);
        x.put(0, 0, 0, 50);
        D.due("read a short sheet", x.read(0), 2);
        D.due("worth 0 by it", x.worth(0, 1), 50);
        D.due("worth 1 by it", x.worth(1, 1), 0);
        D.due("worth 2 stands", x.worth(2, 1), 1);
        x.sheet(1, 1, 0);
        D.due("read an empty sheet", x.read(1), 0);
    }

    private static void night() {
        UnguessedRound x = Due.told("012345;3");
        for (int i = 0; i < 6; i++) {
            D.due("night 0, " + i, x.night(0, i), i);
            D.due("night 1, " + i, x.night(1, i), i == 0 ? 3 : NONE);
        }
        int[][] bad = {{-1, 0}, {2, 0}, {0, -1}, {0, 6}, {Integer.MAX_VALUE, 0}, {Integer.MIN_VALUE, 0}};
        for (int[] b : bad) {
            D.due("night " + b[0] + ", " + b[1], x.night(b[0], b[1]), BAD);
        }
        x.type(';');
        D.due("night with a fault", x.night(0, 0), BAD);
    }
}
