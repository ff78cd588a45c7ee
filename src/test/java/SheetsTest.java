/** Promises 24 to 29: SHEETS, and the FINDINGS about them. */
public final class SheetsTest {
    private static final Due D = new Due();
    private static final int BAD = UnguessedRound.BAD;
    private static final int NULL = -11, INDEX = -12, CAST = -13, STORE = -14, SIZE = -15;
    private static final int NO_ITEM = Integer.MIN_VALUE;

    public static void main(String[] args) {
        sheet();
        lose();
        put();
        get();
        copy();
        copyRefusals();
        write();
        longOnes();
        D.end();
    }

    private static void sheet() {
        UnguessedRound x = new UnguessedRound();
        D.due("a sheet of none", x.sheet(0, 0, 0), 0);
        D.due("a sheet of the most", x.sheet(3, 2, 48), 48);
        int[][] bad = {{-1, 0, 1}, {4, 0, 1}, {0, -1, 1}, {0, 3, 1}, {0, 0, 49}, {4, 0, -1}, {0, 3, -1}};
        for (int[] b : bad) {
            D.due("sheet " + b[0] + ", " + b[1] + ", " + b[2], x.sheet(b[0], b[1], b[2]), BAD);
        }
        D.due("BAD is no finding", x.count(8), 0);
        D.due("sheet of less than none", x.sheet(3, 0, -1), SIZE);
        D.due("its finding", x.count(8), 5);
        D.due("the finding changes nothing", x.get(3, 2, 47), 0);
        x.put(3, 2, 0, 66);
        x.put(3, 2, 4, 77);
        D.due("a new row", x.sheet(3, 2, 5), 5);
        D.due("a new row has zeros", x.get(3, 2, 0), 0);
        D.due("a new row has zeros to its end", x.get(3, 2, 4), 0);
        D.due("a new row has a new size", x.put(3, 2, 5, 1), INDEX);
        D.due("a new row has a new form", x.sheet(3, 1, 5), 5);
        D.due("and no longer the old one", x.put(3, 2, 0, 1), CAST);
    }

    private static void lose() {
        UnguessedRound x = new UnguessedRound();
        x.sheet(2, 1, 9);
        x.put(2, 1, 3, 5);
        D.due("lose", x.lose(2), 9);
        D.due("lose what is lost", x.lose(2), NULL);
        D.due("its finding", x.count(8), 1);
        D.due("lose below", x.lose(-1), BAD);
        D.due("lose above", x.lose(4), BAD);
        x.sheet(2, 1, 9);
        D.due("what was lost does not come back", x.get(2, 1, 3), 0);
    }

    private static void put() {
        UnguessedRound x = new UnguessedRound();
        int[] values = {127, 128, -129, 32767, 32768, -32769, Integer.MAX_VALUE, Integer.MIN_VALUE + 1};
        for (int form = 0; form < 3; form++) {
            x.sheet(form, form, 2);
            for (int v : values) {
                D.due("put " + v, x.put(form, form, 1, v), 1);
                int kept = form == 0 ? (byte) v : form == 1 ? (short) v : v;
                D.due("put " + v + " in form " + form, x.get(form, form, 1), kept);
            }
            D.due("put leaves the other item", x.get(form, form, 0), 0);
        }
        int[][] refused = {{-1, 0, 0, BAD}, {4, 0, 0, BAD}, {0, -1, 0, BAD}, {0, 3, 0, BAD}, {3, 3, 9, BAD},
            {3, 0, 9, NULL}, {0, 1, 9, CAST}, {0, 0, -1, INDEX}, {0, 0, 2, INDEX}, {0, 0, Integer.MAX_VALUE, INDEX}};
        for (int[] r : refused) {
            D.due("put " + r[0] + ", " + r[1] + ", " + r[2], x.put(r[0], r[1], r[2], 1), r[3]);
            D.due("its finding", x.count(8), r[3] == BAD ? 0 : -10 - r[3]);
        }
        x.put(0, 0, 0, 3);
        D.due("an act that is well leaves the latest finding", x.count(8), 2);
    }

    private static void get() {
        UnguessedRound x = new UnguessedRound();
        x.sheet(0, 1, 3);
        x.put(0, 1, 2, -5);
        D.due("get", x.get(0, 1, 2), -5);
        int[][] refused = {{-1, 0, 0, 0}, {4, 0, 0, 0}, {0, -1, 0, 0}, {0, 3, 0, 0}, {3, 3, 9, 0},
            {1, 1, 9, 1}, {0, 2, 9, 3}, {0, 1, -1, 2}, {0, 1, 3, 2}};
        for (int[] r : refused) {
            D.due("get " + r[0] + ", " + r[1] + ", " + r[2], x.get(r[0], r[1], r[2]), NO_ITEM);
            D.due("its finding", x.count(8), r[3]);
        }
    }

    private static UnguessedRound withRow(int form, int n) {
        UnguessedRound x = new UnguessedRound();
        x.sheet(0, form, n);
        for (int i = 0; i < n; i++) {
            x.put(0, form, i, i + 1);
        }
        return x;
    }

    private static void rowOf(UnguessedRound x, int s, int form, int... items) {
        for (int i = 0; i < items.length; i++) {
            D.due("item " + i + " of sheet " + s, x.get(s, form, i), items[i]);
        }
        D.due("sheet " + s + " ends so", x.get(s, form, items.length), NO_ITEM);
    }

    private static void copy() {
        UnguessedRound up = withRow(0, 5);
        D.due("copy up in a sheet", up.copy(0, 0, 0, 2, 3), 1);
        rowOf(up, 0, 0, 1, 2, 1, 2, 3);
        UnguessedRound down = withRow(1, 5);
        D.due("copy down in a sheet", down.copy(0, 1, 0, 0, 4), 1);
        rowOf(down, 0, 1, 2, 3, 4, 5, 5);
        UnguessedRound over = withRow(2, 3);
        over.sheet(3, 2, 4);
        D.due("copy to another", over.copy(0, 1, 3, 2, 2), 1);
        rowOf(over, 3, 2, 0, 0, 2, 3);
        rowOf(over, 0, 2, 1, 2, 3);
        D.due("copy none", over.copy(0, 3, 3, 4, 0), 1);
        UnguessedRound all = withRow(2, 48);
        all.sheet(1, 2, 48);
        D.due("copy all", all.copy(0, 0, 1, 0, 48), 1);
        D.due("the last of all", all.get(1, 2, 47), 48);
        D.due("all to where they are", all.copy(1, 0, 1, 0, 48), 1);
        D.due("the last of all again", all.get(1, 2, 47), 48);
    }

    private static void copyRefusals() {
        UnguessedRound x = withRow(0, 5);
        x.sheet(1, 0, 3);
        x.sheet(2, 1, 3);
        int most = Integer.MAX_VALUE;
        int[][] refused = {{-1, 0, 0, 0, 0, BAD}, {4, 0, 0, 0, 0, BAD}, {0, 0, -1, 0, 0, BAD}, {0, 0, 4, 0, 0, BAD},
            {3, 0, 4, 0, 0, BAD}, {3, -1, 0, 0, 0, NULL}, {0, -1, 3, 0, 0, NULL}, {3, 0, 3, 0, 0, NULL},
            {0, -1, 2, 0, 0, STORE}, {2, 0, 1, 0, 0, STORE}, {0, 0, 2, 0, 0, STORE},
            {0, -1, 1, 0, 1, INDEX}, {0, 0, 1, -1, 1, INDEX}, {0, 0, 1, 0, -1, INDEX}, {0, 3, 1, 0, 3, INDEX},
            {0, 0, 1, 1, 3, INDEX}, {0, 0, 1, 0, 4, INDEX}, {1, 0, 0, 0, 4, INDEX}, {0, 6, 1, 0, 0, INDEX},
            {0, 0, 1, 4, 0, INDEX}, {0, most, 1, 0, 1, INDEX}, {0, 0, 1, most, 1, INDEX}, {0, 1, 1, 1, most, INDEX},
            {0, most, 1, most, most, INDEX}, {0, 0, 1, 0, Integer.MIN_VALUE, INDEX}};
        for (int[] r : refused) {
            String call = "copy " + r[0] + ", " + r[1] + ", " + r[2] + ", " + r[3] + ", " + r[4];
            D.due(call, x.copy(r[0], r[1], r[2], r[3], r[4]), r[5]);
            D.due("the finding of " + call, x.count(8), r[5] == BAD ? 0 : -10 - r[5]);
        }
        rowOf(x, 0, 0, 1, 2, 3, 4, 5);
        rowOf(x, 1, 0, 0, 0, 0);
        rowOf(x, 2, 1, 0, 0, 0);
    }

    /** SHEETS of the greatest size do not touch one another. */
    private static void longOnes() {
        UnguessedRound x = Due.told("5");
        for (int s = 0; s < 4; s++) {
            x.sheet(s, 2, 48);
            x.put(s, 2, 0, 10 + s);
            x.put(s, 2, 47, 20 + s);
        }
        x.write(0, 1);
        D.due("write leaves the one behind it", x.get(2, 2, 0), 12);
        D.due("write leaves the one ahead of it", x.get(0, 2, 47), 20);
        x.sheet(2, 2, 48);
        D.due("a new row leaves the one behind it", x.get(3, 2, 0), 13);
        for (int s = 0; s < 4; s++) {
            D.due("first item of " + s, x.get(s, 2, 0), s == 1 ? 5 : s == 2 ? 0 : 10 + s);
            D.due("last item of " + s, x.get(s, 2, 47), s == 1 ? -1 : s == 2 ? 0 : 20 + s);
        }
        x.put(2, 2, 0, 32);
        D.due("copy all to the next", x.copy(0, 0, 1, 0, 48), 1);
        D.due("first item of the one behind it", x.get(2, 2, 0), 32);
        D.due("an item behind the last", x.get(0, 2, 48), NO_ITEM);
    }

    private static void write() {
        UnguessedRound x = Due.told("01;5");
        int[] where = {0, 0, -1, -1, -1, 1, 1, -1};
        for (int form = 0; form < 3; form++) {
            x.sheet(form, form, 8);
            D.due("write", x.write(0, form), 8);
            rowOf(x, form, form, where);
        }
        x.sheet(3, 0, 1);
        D.due("write to a short sheet", x.write(1, 3), 1);
        rowOf(x, 3, 0, 5);
        x.sheet(3, 0, 0);
        D.due("write to an empty sheet", x.write(1, 3), 0);
        x.sheet(3, 0, 48);
        D.due("write to a long sheet", x.write(1, 3), 48);
        x.lose(3);
        int[][] refused = {{-1, 0, BAD}, {2, 0, BAD}, {0, -1, BAD}, {0, 4, BAD}, {2, 3, BAD}, {0, 3, NULL}};
        for (int[] r : refused) {
            int was = x.count(8);
            D.due("write " + r[0] + ", " + r[1], x.write(r[0], r[1]), r[2]);
            D.due("its finding", x.count(8), r[2] == BAD ? was : 1);
        }
    }
}
