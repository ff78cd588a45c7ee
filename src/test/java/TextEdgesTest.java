import java.util.function.Supplier;

/** "NIGHTS are a text of up to 60 bytes ..", and promises 1 to 4 and 9, sentence by sentence. */
public final class TextEdgesTest {
    private static final Due D = new Due();
    private static final int NONE = UnguessedRound.NONE, BAD = UnguessedRound.BAD, FULL = UnguessedRound.FULL;
    private static final String EIGHT = "0;1;2;3;4;5;0;1";
    private static final String LONGEST = "012345;".repeat(7) + "543210";

    public static void main(String[] args) {
        upToSixtyBytes();
        badGoesAheadOfFull();
        anEmptyTextIsWell();
        figuresOfSheds();
        oneAtLeast();
        noneTwice();
        whatCameInAnotherNightMayCome();
        ofOneThatIsNotEndedItsEnd();
        theFirstByteOfANinth();
        theFirstFaultStands();
        aFaultAtItsEndIsMended();
        withAFaultThereAreNone();
        nightsAreEmpty();
        wipeLeavesAllElse();
        theIthShed();
        aNewObject();
        objectsShareNothing();
        D.end();
    }

    /** "A text of up to 60 bytes"; "a byte (0 to 255)". */
    private static void upToSixtyBytes() {
        UnguessedRound x = new UnguessedRound();
        for (int i = 1; i <= 60; i++) {
            D.due("type as byte " + i, x.type(255 - i), i);
            D.due("bytes behind byte " + i, x.count(1), i);
        }
        Supplier<UnguessedRound> full = () -> Due.told("9".repeat(60));
        for (int b : new int[] {0, '0', ';', 255}) {
            D.refused("type " + b + " as byte 61", full, y -> y.type(b), FULL, Due.NO_FINDING);
        }
        Supplier<UnguessedRound> nearly = () -> Due.told("9".repeat(59));
        D.refused("type -1 as byte 60", nearly, y -> y.type(-1), BAD, Due.NO_FINDING);
        D.due("byte 60 behind a refusal", typeBehindARefusal(nearly.get()), 60);
        UnguessedRound again = full.get();
        D.due("wipe sixty bytes", again.wipe(), 60);
        D.due("type behind that", again.type('4'), 1);
        D.due("and it is told", again.night(0, 0), 4);
    }

    private static int typeBehindARefusal(UnguessedRound x) {
        x.type(256);
        return x.type(0);
    }

    private static void badGoesAheadOfFull() {
        Supplier<UnguessedRound> full = () -> Due.told("0;".repeat(30));
        for (int b : new int[] {-1, 256, Integer.MIN_VALUE, Integer.MAX_VALUE, '0' + 256}) {
            D.refused("type " + b + " behind sixty bytes", full, y -> y.type(b), BAD, Due.NO_FINDING);
        }
    }

    private static void anEmptyTextIsWell() {
        faultOf("", NONE, 0);
        UnguessedRound x = Due.told("0;;");
        x.wipe();
        D.due("fault of a text that was wiped", x.fault(), NONE);
        D.due("nights of a text that was wiped", x.count(0), 0);
    }

    /** Each byte in the first place, behind a figure, behind a ; and in the last place of the eighth NIGHT. */
    private static void figuresOfSheds() {
        for (int b = 0; b <= 255; b++) {
            boolean figure = b >= 48 && b <= 53;
            faultOf("" + (char) b, figure ? NONE : 0, figure ? 1 : 0);
            faultOf("2;" + (char) b, figure ? NONE : 2, figure ? 2 : 0);
            boolean goesOn = figure && b != '2';
            faultOf("2" + (char) b, goesOn ? NONE : b == ';' ? 2 : 1, goesOn ? 1 : 0);
            boolean ends = figure && b != '1';
            faultOf(EIGHT + (char) b, ends ? NONE : b == ';' ? 16 : 15, ends ? 8 : 0);
        }
    }

    private static void oneAtLeast() {
        faultOf(";", 0, 0);
        faultOf(";0", 0, 0);
        faultOf("0;;", 2, 0);
        faultOf("0;;1", 2, 0);
        faultOf("012345;;", 7, 0);
        faultOf("0;1;2;3;4;5;0;;", 14, 0);
        faultOf("0;1", NONE, 2);
    }

    private static void noneTwice() {
        String all = "012345";
        for (int length = 1; length <= 6; length++) {
            for (int twice = 0; twice < length; twice++) {
                faultOf(all.substring(0, length) + twice, length, 0);
                faultOf("3;" + all.substring(0, length) + twice, length + 2, 0);
            }
        }
        faultOf("012345;543210", NONE, 2);
    }

    private static void whatCameInAnotherNightMayCome() {
        faultOf("5;5;5;5;5;5;5;5", NONE, 8);
        faultOf("10;01;1;0", NONE, 4);
        faultOf("01;121", 5, 0);
        faultOf("01;11", 4, 0);
    }

    private static void ofOneThatIsNotEndedItsEnd() {
        for (int night = 1; night <= 8; night++) {
            String ended = EIGHT.substring(0, 2 * night - 1);
            faultOf(ended, NONE, night);
            faultOf(ended + ";", 2 * night, 0);
        }
        faultOf(LONGEST, NONE, 8);
        faultOf(LONGEST + ";", 56, 0);
    }

    private static void theFirstByteOfANinth() {
        for (int b = 0; b <= 255; b++) {
            faultOf(EIGHT + ";" + (char) b, 16, 0);
        }
        faultOf(EIGHT + ";2;3;4", 16, 0);
        faultOf(LONGEST + ";012", 56, 0);
        faultOf("0;1;2;3;4;5;0;", 14, 0);
        faultOf("0;1;2;3;4;5;0;1", NONE, 8);
    }

    /** Behind a FAULT nothing that is typed moves it, up to the last byte. */
    private static void theFirstFaultStands() {
        String[] texts = {"6", "00", "0;;", "0;1;x", EIGHT + "1", EIGHT + ";2", LONGEST + ";0"};
        for (String text : texts) {
            UnguessedRound x = Due.told(text);
            int fault = x.fault();
            D.due("fault of " + text + " is in it", fault >= 0 && fault < text.length() ? 1 : 0, 1);
            for (int size = text.length() + 1; size <= 60; size++) {
                D.due("type behind a FAULT", x.type("0;3".charAt(size % 3)), size);
                D.due("fault of " + text + " with " + size + " bytes", x.fault(), fault);
            }
        }
        faultOf("00;7;;", 1, 0);
        faultOf("7;00", 0, 0);
    }

    private static void aFaultAtItsEndIsMended() {
        UnguessedRound x = Due.told("4;");
        D.due("fault at its end", x.fault(), 2);
        x.type('4');
        D.due("fault that is mended", x.fault(), NONE);
        D.due("nights behind it", x.count(0), 2);
        x.type(';');
        D.due("fault at the next end", x.fault(), 4);
        x.type(';');
        D.due("fault that stays", x.fault(), 4);
        x.type('4');
        D.due("fault that can't be mended", x.fault(), 4);
    }

    private static void withAFaultThereAreNone() {
        for (String text : new String[] {"01;12;", "01;12;7", "01;122", "/", ";01;12", EIGHT + ";"}) {
            UnguessedRound x = Due.told(text);
            x.sheet(0, 0, 1);
            String of = " of " + text;
            D.due("count 0" + of, x.count(0), 0);
            D.due("count 1" + of, x.count(1), text.length());
            D.due("count 6" + of, x.count(6), 0);
            D.due("count 7" + of, x.count(7), 0);
            D.due("night" + of, x.night(0, 0), BAD);
            D.due("at" + of, x.at(0, 0), BAD);
            D.due("when" + of, x.when(0, 0), BAD);
            D.due("alone" + of, x.alone(0, 0, 0), BAD);
            D.due("steals" + of, x.steals(0, 0, 0), BAD);
            D.due("next behind one" + of, x.next(1, NONE, 0, 0), Due.LONG_BAD);
            D.due("next behind none, above" + of, x.next(0, NONE, 0, 0), 1);
            D.due("next behind none, below" + of, x.next(0, NONE, 0, 1), 6);
            D.due("likely" + of, x.likely(0, 0), Due.LONG_BAD);
            D.due("fresh" + of, x.fresh(NONE), 720);
            D.due("fresh 5" + of, x.fresh(5), 5);
            D.due("breaks" + of, x.breaks(0, 0, 8, 0), BAD);
            D.due("seen" + of, x.seen(0, 0, 8, 0, 0), BAD);
            D.due("least" + of, x.least(0, 0, 0), Due.LONG_BAD);
            D.due("lamp" + of, x.lamp(0, 0, 8, 0), BAD);
            D.due("learn" + of, x.learn(0, 0, 1, 0), BAD);
            D.due("dice" + of, x.dice(0, 8, NONE), Due.LONG_BAD);
            D.due("seeds" + of, x.seeds(0), 100);
            D.due("least seed" + of, x.seeds(1), 0);
            D.due("write" + of, x.write(0, 0), BAD);
        }
    }

    /** wipe(): "how many bytes they had", with a FAULT and without, at none and at all. */
    private static void nightsAreEmpty() {
        for (String text : new String[] {"", "0", "0;", "x", LONGEST, "0".repeat(59), "0".repeat(60)}) {
            UnguessedRound x = Due.told(text);
            D.due("wipe " + text, x.wipe(), text.length());
            D.due("bytes behind wiping " + text, x.count(1), 0);
            D.due("nights behind wiping " + text, x.count(0), 0);
            D.due("steps behind wiping " + text, x.count(7), 0);
            D.due("fault behind wiping " + text, x.fault(), NONE);
            D.due("wipe again behind " + text, x.wipe(), 0);
            D.due("night behind wiping " + text, x.night(0, 0), BAD);
            Due.type(x, LONGEST);
            D.due("nights typed behind wiping " + text, x.count(0), 8);
            D.due("the last of them behind wiping " + text, x.night(7, 5), 0);
        }
    }

    private static void wipeLeavesAllElse() {
        UnguessedRound x = Due.told("012;3");
        x.worth(3, 77);
        x.way(1, 4, 8);
        x.set(0, 5);
        x.set(1, 9);
        x.sheet(1, 1, 4);
        x.put(1, 1, 3, -300);
        x.lose(0);
        x.wipe();
        D.due("finding behind wipe", x.count(8), 1);
        D.due("LOOK behind wipe", x.count(2), 5);
        D.due("NEED behind wipe", x.count(3), 9);
        D.due("item behind wipe", x.get(1, 1, 3), -300);
        D.due("way behind wipe", x.way(4, 1, 8), 8);
        D.due("worth behind wipe", x.worth(3, 77), 77);
    }

    /** night(): "The i-th SHED (0 to 5) of a NIGHT; NONE: it has fewer." */
    private static void theIthShed() {
        String all = "524103";
        for (int length = 1; length <= 6; length++) {
            UnguessedRound x = Due.told(all.substring(0, length) + ";" + all);
            for (int i = 0; i < 6; i++) {
                D.due("night of " + length + ", " + i, x.night(0, i), i < length ? all.charAt(i) - '0' : NONE);
                D.due("the night behind it, " + i, x.night(1, i), all.charAt(i) - '0');
            }
            D.due("night of " + length + ", 6", x.night(0, 6), BAD);
            D.due("night of " + length + ", -1", x.night(0, -1), BAD);
            D.due("no third night", x.night(2, 0), BAD);
        }
        UnguessedRound eight = Due.told(EIGHT);
        for (int night = 0; night < 8; night++) {
            D.due("night " + night + " of eight", eight.night(night, 0), night % 6);
            D.due("night " + night + " of eight has one", eight.night(night, 1), NONE);
        }
        D.due("night 8 of eight", eight.night(8, 0), BAD);
        D.due("night -1 of eight", eight.night(-1, 0), BAD);
    }

    /** "No NIGHTS; all SHEETS are LOST", and what the first passage and the Terms say is so at first. */
    private static void aNewObject() {
        UnguessedRound x = new UnguessedRound();
        D.due("new: finding", x.count(8), 0);
        D.due("new: nights", x.count(0), 0);
        D.due("new: night", x.night(0, 0), BAD);
        D.due("new: fault", x.fault(), NONE);
        D.due("new: bytes", x.wipe(), 0);
        for (int s = 0; s < 4; s++) {
            for (int form = 0; form < 3; form++) {
                D.due("new: put to sheet " + s + " of form " + form, x.put(s, form, 0, 0), -11);
            }
            D.due("new: read sheet " + s, x.read(s), -11);
            D.due("new: copy sheet " + s, x.copy(s, 0, s, 0, 0), -11);
            D.due("new: lose sheet " + s, x.lose(s), -11);
        }
        for (int shed = 0; shed < 6; shed++) {
            D.due("new: worth of " + shed, x.worth(shed, 10), 10);
        }
        D.due("new: LOOK", x.set(0, 2), 2);
        D.due("new: NEED", x.set(1, 6), 6);
        D.unchanged("asking a new object", x, new UnguessedRound());
    }

    private static void objectsShareNothing() {
        UnguessedRound x = new UnguessedRound();
        UnguessedRound y = new UnguessedRound();
        Due.type(x, "01;10");
        x.worth(0, 99);
        x.way(0, 1, 9);
        x.set(0, 5);
        x.set(1, 20);
        x.sheet(0, 1, 48);
        x.lose(3);
        x.fresh(0);
        x.learn(0, 1, 9, 0);
        D.due("finding of the other object", y.count(8), 0);
        D.unchanged("calls on another object", y, new UnguessedRound());
    }

    private static void faultOf(String text, int fault, int nights) {
        UnguessedRound x = Due.told(text);
        D.due("fault of '" + text + "'", x.fault(), fault);
        D.due("nights of '" + text + "'", x.count(0), nights);
    }
}
