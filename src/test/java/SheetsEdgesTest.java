import java.util.function.Supplier;

/** SHEETS and FINDINGS, and promises 24 to 29, sentence by sentence. */
public final class SheetsEdgesTest {
    private static final Due D = new Due();
    private static final int BAD = UnguessedRound.BAD;
    private static final int NULL = -11, INDEX = -12, CAST = -13, STORE = -14, SIZE = -15;
    private static final int LEAST = Integer.MIN_VALUE, MOST = Integer.MAX_VALUE;

    public static void main(String[] args) {
        lostAtFirstAndZeroAtFirst();
        aNewRowInThePlaceOfAnOldOne();
        sheetBesideTheNumbers();
        sheetBadGoesAheadOfSize();
        loseTellsHowManyItemsItHad();
        loseWhatIsLost();
        putTheLowestBitsWithTheirSign();
        putAtTheFirstAndTheLastItem();
        putRefusalsInTheirOrder();
        getTellsByTheFinding();
        getTheLeastIntItself();
        getRefusalsInTheirOrder();
        copyAsTheyWere();
        copyOfAllSmallRows();
        copyNone();
        copyAll();
        copyBesideTheItems();
        copyByForms();
        copyRefusalsInTheirOrder();
        copyNarrowsNothing();
        writeAsManyAsThereAreItems();
        writeByEachForm();
        writeRefusalsInTheirOrder();
        theLatestFinding();
        D.end();
    }

    /** SHEET 0: 5 bytes 1 to 5; SHEET 1: 3 shorts 10 to 12; SHEET 2: 4 ints 20 to 23; SHEET 3 is LOST. */
    private static UnguessedRound sheets() {
        UnguessedRound x = Due.told("01;5");
        x.sheet(0, 0, 5);
        x.sheet(1, 1, 3);
        x.sheet(2, 2, 4);
        for (int i = 0; i < 5; i++) {
            x.put(0, 0, i, i + 1);
        }
        for (int i = 0; i < 3; i++) {
            x.put(1, 1, i, 10 + i);
        }
        for (int i = 0; i < 4; i++) {
            x.put(2, 2, i, 20 + i);
        }
        return x;
    }

    /** A SHEET of a FORM that was LOST again, with items that it had. */
    private static UnguessedRound lostAgain(int s, int form, int n) {
        UnguessedRound x = sheets();
        x.sheet(s, form, n);
        for (int i = 0; i < n; i++) {
            x.put(s, form, i, 9);
        }
        x.lose(s);
        return x;
    }

    private static void rowOf(String name, UnguessedRound x, int s, int form, int... items) {
        x.sheet(0, 0, -1);
        for (int i = 0; i < items.length; i++) {
            D.due(name + ", item " + i + " of sheet " + s, x.get(s, form, i), items[i]);
        }
        D.due(name + ", sheet " + s + " has all these", x.count(8), 5);
        D.due(name + ", sheet " + s + " ends so", x.get(s, form, items.length), LEAST);
        D.due(name + ", sheet " + s + " ends by INDEX", x.count(8), 2);
    }

    /** "SHEETS 0 .. 3 are LOST (at first) or a row of a FORM .., of 0 to 48 items (0 at first)". */
    private static void lostAtFirstAndZeroAtFirst() {
        for (int s = 0; s < 4; s++) {
            for (int form = 0; form < 3; form++) {
                for (int n : new int[] {0, 1, 47, 48}) {
                    UnguessedRound x = new UnguessedRound();
                    D.due("put to " + s + " that is LOST at first", x.put(s, form, 0, 1), NULL);
                    D.due("sheet " + s + ", " + form + ", " + n, x.sheet(s, form, n), n);
                    rowOf("zeros at first", x, s, form, new int[n]);
                    D.due("lose " + s + " of " + n, x.lose(s), n);
                }
            }
        }
    }

    /** "A SHEET is a new row": zeros, another size and another FORM; the others stay. */
    private static void aNewRowInThePlaceOfAnOldOne() {
        for (int form = 0; form < 3; form++) {
            for (int n : new int[] {0, 3, 4, 5, 48}) {
                UnguessedRound x = sheets();
                D.due("a new row of form " + form, x.sheet(2, form, n), n);
                rowOf("a new row", x, 2, form, new int[n]);
                D.due("of form " + form + " alone", x.put(2, (form + 1) % 3, 0, 1), CAST);
                rowOf("beside a new row", x, 0, 0, 1, 2, 3, 4, 5);
                rowOf("beside a new row", x, 1, 1, 10, 11, 12);
                D.due("sheet 3 is LOST yet", x.lose(3), NULL);
            }
        }
        UnguessedRound back = lostAgain(3, 2, 6);
        back.sheet(3, 2, 6);
        rowOf("a new row where one was lost", back, 3, 2, 0, 0, 0, 0, 0, 0);
        for (int s = 0; s < 4; s++) {
            UnguessedRound full = lostAgain(s, 2, 48);
            full.sheet(s, 2, 48);
            rowOf("a new row of the most items", full, s, 2, new int[48]);
        }
        UnguessedRound longer = sheets();
        longer.sheet(2, 2, 1);
        longer.sheet(2, 2, 4);
        rowOf("a longer row behind a short one", longer, 2, 2, 0, 0, 0, 0);
    }

    /** "BAD: SHEET, FORM, above 48; SIZE": of 48 and of 0 items it is taken, of 49 and of -1 not. */
    private static void sheetBesideTheNumbers() {
        int[][] bad = {{-1, 0, 3}, {4, 0, 3}, {2, -1, 3}, {2, 3, 3}, {2, 2, 49}, {2, 2, MOST}, {LEAST, 0, 0}, {2, MOST, 0}};
        for (int[] b : bad) {
            String call = "sheet " + b[0] + ", " + b[1] + ", " + b[2];
            D.refused(call, SheetsEdgesTest::sheets, x -> x.sheet(b[0], b[1], b[2]), BAD, Due.NO_FINDING);
        }
        for (int n : new int[] {-1, -48, LEAST}) {
            D.refused("sheet 2, 2, " + n, SheetsEdgesTest::sheets, x -> x.sheet(2, 2, n), SIZE, 5);
            D.refused("sheet 3, 0, " + n, SheetsEdgesTest::sheets, x -> x.sheet(3, 0, n), SIZE, 5);
        }
    }

    private static void sheetBadGoesAheadOfSize() {
        int[][] bad = {{-1, 0, -1}, {4, 0, -1}, {0, -1, -1}, {0, 3, -1}, {4, 3, LEAST}};
        for (int[] b : bad) {
            String call = "sheet " + b[0] + ", " + b[1] + ", " + b[2];
            D.refused(call, SheetsEdgesTest::sheets, x -> x.sheet(b[0], b[1], b[2]), BAD, Due.NO_FINDING);
        }
    }

    private static void loseTellsHowManyItemsItHad() {
        int[] sizes = {5, 3, 4};
        for (int s = 0; s < 3; s++) {
            UnguessedRound x = sheets();
            D.due("lose " + s, x.lose(s), sizes[s]);
            D.due("the finding behind it", x.count(8), 0);
            D.due("lose " + s + " again", x.lose(s), NULL);
            D.due("the finding behind that", x.count(8), 1);
            D.due("lose the one beside it", x.lose((s + 1) % 3), sizes[(s + 1) % 3]);
        }
        UnguessedRound empty = new UnguessedRound();
        empty.sheet(1, 0, 0);
        D.due("lose an empty one", empty.lose(1), 0);
        D.due("lose it again", empty.lose(1), NULL);
    }

    private static void loseWhatIsLost() {
        D.refused("lose 3, LOST at first", SheetsEdgesTest::sheets, x -> x.lose(3), NULL, 1);
        D.refused("lose 3, LOST again", () -> lostAgain(3, 1, 7), x -> x.lose(3), NULL, 1);
        for (int s : new int[] {-1, 4, LEAST, MOST}) {
            D.refused("lose " + s, SheetsEdgesTest::sheets, x -> x.lose(s), BAD, Due.NO_FINDING);
        }
    }

    /** "becomes v (the lowest bits that it has, with its sign ..)": what is put, as bytes, shorts and ints. */
    private static void putTheLowestBitsWithTheirSign() {
        int[][] kept = {{0, 0, 0, 0}, {-1, -1, -1, -1}, {127, 127, 127, 127}, {128, -128, 128, 128}, {255, -1, 255, 255},
            {256, 0, 256, 256}, {-128, -128, -128, -128}, {-129, 127, -129, -129}, {32767, -1, 32767, 32767},
            {32768, 0, -32768, 32768}, {65535, -1, -1, 65535}, {65536, 0, 0, 65536}, {-32768, 0, -32768, -32768},
            {-32769, -1, 32767, -32769}, {MOST, -1, -1, MOST}, {LEAST, 0, 0, LEAST}, {LEAST + 128, -128, 128, LEAST + 128}};
        for (int[] k : kept) {
            for (int form = 0; form < 3; form++) {
                UnguessedRound x = new UnguessedRound();
                x.sheet(2, form, 3);
                D.due("put " + k[0], x.put(2, form, 1, k[0]), 1);
                D.due("put " + k[0] + " of form " + form, x.get(2, form, 1), k[1 + form]);
                D.due("the item ahead of it", x.get(2, form, 0), 0);
                D.due("the item behind it", x.get(2, form, 2), 0);
                D.due("no finding", x.count(8), 0);
            }
        }
    }

    private static void putAtTheFirstAndTheLastItem() {
        for (int n : new int[] {1, 2, 47, 48}) {
            for (int s = 0; s < 4; s++) {
                UnguessedRound x = new UnguessedRound();
                x.sheet(s, 2, n);
                D.due("put to the first of " + n, x.put(s, 2, 0, 7), 1);
                D.due("put to the last of " + n, x.put(s, 2, n - 1, 8), 1);
                D.due("put behind the last of " + n, x.put(s, 2, n, 9), INDEX);
                D.due("put ahead of the first of " + n, x.put(s, 2, -1, 9), INDEX);
                D.due("the last of " + n, x.get(s, 2, n - 1), 8);
                D.due("the first of " + n, x.get(s, 2, 0), n == 1 ? 8 : 7);
            }
        }
    }

    /** "BAD; NULL; CAST; INDEX": each alone, and with all that come behind it. */
    private static void putRefusalsInTheirOrder() {
        int[][] rows = {{-1, 0, 0, BAD}, {4, 0, 0, BAD}, {0, -1, 0, BAD}, {0, 3, 0, BAD}, {3, 3, 0, BAD}, {3, -1, -1, BAD},
            {0, 3, 5, BAD}, {3, 0, 0, NULL}, {3, 1, 0, NULL}, {3, 2, -1, NULL}, {3, 0, 48, NULL}, {0, 1, 0, CAST},
            {0, 2, 0, CAST}, {1, 0, 0, CAST}, {1, 2, 0, CAST}, {2, 0, 0, CAST}, {2, 1, 0, CAST}, {0, 1, 5, CAST},
            {1, 2, -1, CAST}, {2, 0, MOST, CAST}, {0, 0, -1, INDEX}, {0, 0, 5, INDEX}, {1, 1, 3, INDEX}, {2, 2, 4, INDEX},
            {2, 2, -1, INDEX}, {2, 2, LEAST, INDEX}, {2, 2, MOST, INDEX}, {2, 2, 48, INDEX}};
        for (int[] r : rows) {
            String call = "put " + r[0] + ", " + r[1] + ", " + r[2];
            D.refused(call, SheetsEdgesTest::sheets, x -> x.put(r[0], r[1], r[2], 99), r[3], findingOf(r[3]));
        }
        emptyAndLostRows((x, form) -> x.put(3, form, 0, 99), false);
    }

    private interface ByForm {
        long on(UnguessedRound x, int form);
    }

    /** A row of no items has no item 0; a row that was LOST again is NULL, whatever its FORM and size were. */
    private static void emptyAndLostRows(ByForm act, boolean leastInt) {
        for (int had = 0; had < 3; had++) {
            for (int form = 0; form < 3; form++) {
                int h = had;
                int f = form;
                int due = form == had ? INDEX : CAST;
                D.refused("form " + f + " of an empty row of " + h, () -> emptyRow(h), x -> act.on(x, f),
                    leastInt ? LEAST : due, findingOf(due));
                D.refused("form " + f + " of a lost row of " + h, () -> lostAgain(3, h, 2), x -> act.on(x, f),
                    leastInt ? LEAST : NULL, 1);
            }
        }
    }

    private static UnguessedRound emptyRow(int form) {
        UnguessedRound x = sheets();
        x.sheet(3, form, 0);
        return x;
    }

    private static int findingOf(int answer) {
        return answer == BAD ? Due.NO_FINDING : -10 - answer;
    }

    /** "BAD: the least int; so are NULL, CAST, INDEX (count() 8 tells)". */
    private static void getTellsByTheFinding() {
        UnguessedRound x = sheets();
        int[][] rows = {{4, 0, 0, 0}, {3, 0, 0, 1}, {0, 1, 0, 3}, {0, 3, 0, 3}, {0, 0, 5, 2}, {-1, 0, 0, 2}};
        for (int[] r : rows) {
            D.due("get " + r[0] + ", " + r[1] + ", " + r[2], x.get(r[0], r[1], r[2]), LEAST);
            D.due("its finding", x.count(8), r[3]);
        }
        D.due("get that is well", x.get(0, 0, 4), 5);
        D.due("it leaves the finding", x.count(8), 2);
    }

    private static void getTheLeastIntItself() {
        UnguessedRound x = sheets();
        x.put(2, 2, 0, LEAST);
        D.due("get the least int", x.get(2, 2, 0), LEAST);
        D.due("that is no finding", x.count(8), 0);
    }

    private static void getRefusalsInTheirOrder() {
        int[][] rows = {{-1, 0, 0, BAD}, {4, 0, 0, BAD}, {0, -1, 0, BAD}, {0, 3, 0, BAD}, {3, 3, 0, BAD}, {3, -1, -1, BAD},
            {0, 3, 5, BAD}, {3, 0, 0, NULL}, {3, 2, -1, NULL}, {3, 1, 48, NULL}, {0, 1, 0, CAST}, {0, 2, 5, CAST},
            {1, 0, 3, CAST}, {1, 2, -1, CAST}, {2, 1, MOST, CAST}, {2, 0, LEAST, CAST}, {0, 0, -1, INDEX}, {0, 0, 5, INDEX},
            {1, 1, 3, INDEX}, {1, 1, -1, INDEX}, {2, 2, 4, INDEX}, {2, 2, LEAST, INDEX}, {2, 2, MOST, INDEX}};
        for (int[] r : rows) {
            String call = "get " + r[0] + ", " + r[1] + ", " + r[2];
            D.refused(call, SheetsEdgesTest::sheets, x -> x.get(r[0], r[1], r[2]), LEAST, findingOf(r[3]));
        }
        emptyAndLostRows((x, form) -> x.get(3, form, 0), true);
    }

    /** "(perhaps s, as they were)": over one another by one and by more, up and down, and where they are. */
    private static void copyAsTheyWere() {
        int[][] rows = {{0, 1, 4, 1, 1, 2, 3, 4}, {1, 0, 4, 2, 3, 4, 5, 5}, {0, 2, 3, 1, 2, 1, 2, 3}, {2, 0, 3, 3, 4, 5, 4, 5},
            {0, 4, 1, 1, 2, 3, 4, 1}, {4, 0, 1, 5, 2, 3, 4, 5}, {0, 0, 5, 1, 2, 3, 4, 5}, {2, 2, 2, 1, 2, 3, 4, 5}};
        for (int[] r : rows) {
            UnguessedRound x = sheets();
            D.due("copy in a sheet " + r[0] + ", " + r[1] + ", " + r[2], x.copy(0, r[0], 0, r[1], r[2]), 1);
            rowOf("copy in a sheet", x, 0, 0, r[3], r[4], r[5], r[6], r[7]);
            rowOf("beside it", x, 1, 1, 10, 11, 12);
        }
    }

    /** From each SHEET to each, from each item to each, as many as there are and one more; a copy ahead of it is forgotten. */
    private static void copyOfAllSmallRows() {
        for (int s = 0; s < 4; s++) {
            for (int t = 0; t < 4; t++) {
                for (int i = 0; i <= 4; i++) {
                    for (int j = 0; j <= 4; j++) {
                        for (int n = 0; n <= 4; n++) {
                            copyOfASmallRow(s, i, t, j, n);
                        }
                    }
                }
            }
        }
    }

    private static void copyOfASmallRow(int s, int i, int t, int j, int n) {
        UnguessedRound x = new UnguessedRound();
        int[][] rows = new int[4][3];
        for (int sheet = 0; sheet < 4; sheet++) {
            x.sheet(sheet, 2, 3);
            for (int item = 0; item < 3; item++) {
                rows[sheet][item] = 10 * sheet + item + 1;
                x.put(sheet, 2, item, rows[sheet][item]);
            }
        }
        String call = "copy " + s + ", " + i + ", " + t + ", " + j + ", " + n;
        D.due("copy all to where they are", x.copy((s + 1) % 4, 0, (s + 1) % 4, 0, 3), 1);
        boolean there = i + n <= 3 && j + n <= 3;
        D.due(call, x.copy(s, i, t, j, n), there ? 1 : INDEX);
        if (there) {
            System.arraycopy(rows[s], i, rows[t], j, n);
        }
        for (int sheet = 0; sheet < 4; sheet++) {
            rowOf(call, x, sheet, 2, rows[sheet]);
        }
    }

    /** "(of n 0, too: i or j above the size)": at the size it is taken. */
    private static void copyNone() {
        UnguessedRound x = sheets();
        x.sheet(3, 0, 2);
        int[][] rows = {{0, 0, 1}, {5, 0, 1}, {0, 2, 1}, {5, 2, 1}, {6, 0, INDEX}, {0, 3, INDEX}, {6, 3, INDEX},
            {-1, 0, INDEX}, {0, -1, INDEX}, {MOST, 0, INDEX}, {0, MOST, INDEX}, {LEAST, 0, INDEX}, {0, LEAST, INDEX}};
        for (int[] r : rows) {
            D.due("copy none from " + r[0] + " to " + r[1], x.copy(0, r[0], 3, r[1], 0), r[2]);
        }
        rowOf("copy none", x, 3, 0, 0, 0);
        UnguessedRound empty = emptyRow(0);
        D.due("copy none of none", empty.copy(3, 0, 3, 0, 0), 1);
        D.due("copy none to none", empty.copy(0, 5, 3, 0, 0), 1);
        D.due("copy none from none", empty.copy(3, 0, 0, 5, 0), 1);
        D.due("none of these is a finding", empty.count(8), 0);
        D.due("copy one of none", empty.copy(3, 0, 0, 0, 1), INDEX);
        D.due("copy one to none", empty.copy(0, 0, 3, 0, 1), INDEX);
    }

    private static void copyAll() {
        for (int form = 0; form < 3; form++) {
            for (int t = 1; t < 4; t++) {
                UnguessedRound x = new UnguessedRound();
                x.sheet(0, form, 48);
                x.sheet(t, form, 48);
                for (int i = 0; i < 48; i++) {
                    x.put(0, form, i, 100 - i);
                }
                D.due("copy all", x.copy(0, 0, t, 0, 48), 1);
                D.due("copy all and one", x.copy(0, 0, t, 0, 49), INDEX);
                for (int i = 0; i < 48; i++) {
                    D.due("item " + i + " of all", x.get(t, form, i), 100 - i);
                }
                x.put(0, form, 0, 1);
                D.due("they are rows of their own", x.get(t, form, 0), 100);
            }
        }
    }

    /** "INDEX: i, j or n below 0, not so many there": of 5 to 3, each number at its last and at the next. */
    private static void copyBesideTheItems() {
        Supplier<UnguessedRound> made = () -> {
            UnguessedRound x = sheets();
            x.sheet(3, 0, 3);
            return x;
        };
        int[][] taken = {{0, 0, 3}, {2, 0, 3}, {4, 2, 1}, {4, 0, 1}, {0, 2, 1}, {0, 1, 2}};
        for (int[] t : taken) {
            D.due("copy " + t[0] + ", " + t[1] + ", " + t[2], made.get().copy(0, t[0], 3, t[1], t[2]), 1);
        }
        int[][] refused = {{3, 0, 3}, {0, 1, 3}, {0, 0, 4}, {5, 0, 1}, {0, 3, 1}, {4, 2, 2}, {-1, 0, 1}, {0, -1, 1},
            {0, 0, -1}, {-1, -1, -1}, {0, 0, LEAST}, {LEAST, 0, 1}, {0, LEAST, 1}, {MOST, 0, 1}, {0, MOST, 1}, {0, 0, MOST},
            {1, 0, MOST}, {0, 1, MOST}, {MOST, MOST, MOST}, {LEAST, LEAST, LEAST}, {-1, 0, 0}, {0, -1, 0}, {6, 0, 0}, {0, 4, 0},
            {-1, 0, 6}, {LEAST, 0, MOST}, {MOST, 0, LEAST}};
        for (int[] r : refused) {
            String call = "copy " + r[0] + ", " + r[1] + ", " + r[2];
            D.refused(call, made, x -> x.copy(0, r[0], 3, r[1], r[2]), INDEX, 2);
        }
        int[][] inOne = {{0, 0, 4}, {1, 0, 3}, {0, 1, 3}, {3, 0, 1}, {0, 3, 1}, {4, 0, 0}, {0, 4, 0}, {-1, 0, 1}, {0, -1, 1},
            {0, 0, -1}, {MOST, MOST, MOST}};
        for (int[] r : inOne) {
            String call = "copy in a sheet " + r[0] + ", " + r[1] + ", " + r[2];
            D.refused(call, made, x -> x.copy(3, r[0], 3, r[1], r[2]), INDEX, 2);
        }
        D.refused("copy more than s has", made, x -> x.copy(3, 0, 0, 0, 4), INDEX, 2);
        D.due("copy as many as s has", made.get().copy(3, 0, 0, 2, 3), 1);
    }

    /** "STORE: unlike FORMS". */
    private static void copyByForms() {
        for (int from = 0; from < 3; from++) {
            for (int to = 0; to < 3; to++) {
                int f = from;
                int t = to;
                Supplier<UnguessedRound> made = () -> emptyRow(t);
                if (f == t) {
                    D.due("copy none of form " + f + " to " + t, made.get().copy(f, 0, 3, 0, 0), 1);
                } else {
                    D.refused("copy none of form " + f + " to " + t, made, x -> x.copy(f, 0, 3, 0, 0), STORE, 4);
                    D.refused("copy of form " + f + " to " + t, made, x -> x.copy(f, 0, 3, 0, 1), STORE, 4);
                    D.refused("copy to form " + f + " from " + t, made, x -> x.copy(3, 0, f, 0, -1), STORE, 4);
                }
            }
        }
    }

    /** "BAD: the SHEETS; NULL: s, t; STORE; INDEX": each alone, and with all that come behind it. */
    private static void copyRefusalsInTheirOrder() {
        int[][] rows = {{-1, 0, 0, 0, 0, BAD}, {4, 0, 0, 0, 0, BAD}, {0, 0, -1, 0, 0, BAD}, {0, 0, 4, 0, 0, BAD},
            {3, 0, 4, 0, 0, BAD}, {4, 0, 3, 0, 0, BAD}, {-1, -1, 3, -1, -1, BAD}, {3, -1, -1, -1, -1, BAD}, {0, 0, 4, 0, 99, BAD},
            {3, 0, 0, 0, 0, NULL}, {0, 0, 3, 0, 0, NULL}, {3, 0, 3, 0, 0, NULL}, {3, 0, 1, 0, 0, NULL}, {2, 0, 3, 0, 0, NULL},
            {3, -1, 2, 0, 0, NULL}, {1, 0, 3, 0, -1, NULL}, {3, 0, 3, -1, 0, NULL}, {0, 0, 1, 0, 0, STORE},
            {1, 0, 2, 0, 1, STORE}, {2, 0, 0, 0, 1, STORE}, {0, -1, 1, 0, 0, STORE}, {1, 0, 0, -1, 0, STORE},
            {2, 0, 1, 0, -1, STORE}, {0, 0, 2, 0, 49, STORE}, {0, 0, 0, 0, 6, INDEX}, {1, 3, 1, 0, 1, INDEX}, {2, 0, 2, 4, 1, INDEX}};
        for (int[] r : rows) {
            String call = "copy " + r[0] + ", " + r[1] + ", " + r[2] + ", " + r[3] + ", " + r[4];
            D.refused(call, SheetsEdgesTest::sheets, x -> x.copy(r[0], r[1], r[2], r[3], r[4]), r[5], findingOf(r[5]));
        }
        for (int form = 0; form < 3; form++) {
            int f = form;
            for (int s = 0; s < 3; s++) {
                int other = s;
                D.refused("copy from one of form " + f + ", LOST again, to " + s, () -> lostAgain(3, f, 2),
                    x -> x.copy(3, 0, other, 0, 1), NULL, 1);
                D.refused("copy to one of form " + f + ", LOST again, from " + s, () -> lostAgain(3, f, 2),
                    x -> x.copy(other, 0, 3, 0, 1), NULL, 1);
            }
        }
    }

    private static void copyNarrowsNothing() {
        int[] edges = {LEAST, MOST, -32768, 32767, -128, 127};
        UnguessedRound x = new UnguessedRound();
        x.sheet(0, 2, 6);
        x.sheet(1, 2, 6);
        for (int i = 0; i < 6; i++) {
            x.put(0, 2, i, edges[i]);
        }
        x.copy(0, 0, 1, 0, 6);
        for (int i = 0; i < 6; i++) {
            D.due("copy of " + edges[i], x.get(1, 2, i), edges[i]);
        }
        D.due("no finding", x.count(8), 0);
    }

    /** "from item 0 on, as many as there are items: how many": none, one, and 48, each as at() tells. */
    private static void writeAsManyAsThereAreItems() {
        for (int n : new int[] {0, 1, 2, 7, 47, 48}) {
            UnguessedRound x = Due.told("4;30");
            x.sheet(1, 2, 48);
            x.put(1, 2, 0, 77);
            x.sheet(0, 2, n);
            D.due("write to " + n, x.write(1, 0), n);
            for (int minute = 0; minute < n; minute++) {
                D.due("written in " + minute, x.get(0, 2, minute), minute < 2 ? 3 : minute == 5 || minute == 6 ? 0 : -1);
            }
            D.due("write leaves the next sheet", x.get(1, 2, 0), 77);
            D.due("written anew", x.write(0, 0), n);
            for (int minute = 0; minute < n; minute++) {
                D.due("written anew in " + minute, x.get(0, 2, minute), minute < 2 ? 4 : -1);
            }
            D.due("no finding", x.count(8), 0);
        }
        UnguessedRound late = Due.told("0123");
        late.set(0, 5);
        late.way(0, 1, 9);
        late.way(1, 2, 9);
        late.way(2, 3, 9);
        late.sheet(0, 0, 48);
        late.write(0, 0);
        D.due("in MINUTE 41", late.get(0, 0, 41), -1);
        D.due("in MINUTE 42", late.get(0, 0, 42), 3);
        D.due("in MINUTE 46", late.get(0, 0, 46), 3);
        D.due("in MINUTE 47", late.get(0, 0, 47), -1);
    }

    private static void writeByEachForm() {
        for (int form = 0; form < 3; form++) {
            UnguessedRound x = Due.told("5");
            x.sheet(3, form, 4);
            for (int i = 0; i < 4; i++) {
                x.put(3, form, i, 99);
            }
            D.due("write to form " + form, x.write(0, 3), 4);
            rowOf("write to form " + form, x, 3, form, 5, 5, -1, -1);
        }
    }

    private static void writeRefusalsInTheirOrder() {
        int[][] rows = {{-1, 0, BAD}, {2, 0, BAD}, {8, 0, BAD}, {LEAST, 0, BAD}, {MOST, 0, BAD}, {0, -1, BAD}, {0, 4, BAD},
            {0, MOST, BAD}, {0, LEAST, BAD}, {-1, 3, BAD}, {2, 3, BAD}, {2, 4, BAD}, {0, 3, NULL}, {1, 3, NULL}};
        for (int[] r : rows) {
            String call = "write " + r[0] + ", " + r[1];
            D.refused(call, SheetsEdgesTest::sheets, x -> x.write(r[0], r[1]), r[2], findingOf(r[2]));
        }
        for (int form = 0; form < 3; form++) {
            int f = form;
            D.refused("write to one of form " + f + ", LOST again", () -> lostAgain(3, f, 4), x -> x.write(0, 3), NULL, 1);
        }
        D.refused("write without a night", UnguessedRound::new, x -> x.write(0, 0), BAD, Due.NO_FINDING);
        UnguessedRound x = emptyRow(0);
        D.due("write to an empty row", x.write(0, 3), 0);
        D.due("and that is no finding", x.count(8), 0);
    }

    /** "8 the number of the latest FINDING (0 before any)": BAD, NOT, FULL and what is taken leave it. */
    private static void theLatestFinding() {
        UnguessedRound x = sheets();
        D.due("before any", x.count(8), 0);
        x.worth(6, 0);
        x.seen(0, 1, 8, 3, 0);
        x.sheet(0, 0, 49);
        x.get(4, 0, 0);
        D.due("BAD and NOT are none", x.count(8), 0);
        D.due("SIZE", x.sheet(3, 0, -1), SIZE);
        findingStays(x, 5);
        D.due("STORE", x.copy(0, 0, 1, 0, 1), STORE);
        findingStays(x, 4);
        D.due("CAST", x.put(0, 2, 0, 1), CAST);
        findingStays(x, 3);
        D.due("INDEX", x.put(0, 0, 5, 1), INDEX);
        findingStays(x, 2);
        D.due("NULL", x.write(0, 3), NULL);
        findingStays(x, 1);
        D.due("CAST by get", x.get(1, 2, 0), LEAST);
        findingStays(x, 3);
        D.due("NULL by read", x.read(3), NULL);
        findingStays(x, 1);
        D.due("INDEX by copy", x.copy(0, 0, 0, 0, 6), INDEX);
        findingStays(x, 2);
        D.due("NULL by lose", x.lose(3), NULL);
        findingStays(x, 1);
    }

    private static void findingStays(UnguessedRound x, int finding) {
        D.due("finding " + finding, x.count(8), finding);
        x.put(0, 0, 0, 1);
        x.get(0, 0, 0);
        x.copy(0, 0, 0, 1, 2);
        x.write(0, 1);
        x.read(2);
        x.sheet(3, 1, 1);
        x.lose(3);
        x.count(9);
        x.get(0, 3, 0);
        x.lose(4);
        x.seen(0, 1, 8, 3, 0);
        x.type(-1);
        x.digest();
        D.due("finding " + finding + " stays", x.count(8), finding);
    }
}
