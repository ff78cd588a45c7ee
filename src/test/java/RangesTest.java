import java.util.ArrayList;
import java.util.List;
import java.util.function.Supplier;

/**
 * Promises 2 to 30: each number of each call at the first and the last value that is told (taken), and at
 * the ones beside these and far away (BAD, and nothing is changed), with the others at their edges.
 */
public final class RangesTest {
    private static final Due D = new Due();
    private static final int LEAST = Integer.MIN_VALUE, MOST = Integer.MAX_VALUE;
    private static final int BAD = UnguessedRound.BAD, NONE = UnguessedRound.NONE;
    private static final String[] EIGHT = {"012345", "123450", "234501", "345012", "450123", "501234", "012345", "543210"};
    // Refusals of a number that the document leaves free are FINDINGS, and come behind BAD.
    private static final int[] FREE = {LEAST, MOST};
    private static final int[] SHED = {0, 5}, SHEET = {0, 3}, FORM = {0, 2}, SIXTEENTHS = {0, 16}, PART = {0, 1};

    private interface Act {
        long on(UnguessedRound x, int[] v);
    }

    private final String scene;
    private final Supplier<UnguessedRound> made;
    private final int[] night;
    private final int[] start;
    private final int told;

    private RangesTest(String scene, Supplier<UnguessedRound> made, int told, int need) {
        this.scene = scene;
        this.made = made;
        this.told = told;
        night = new int[] {0, told - 1};
        start = new int[] {0, 60 - need};
    }

    public static void main(String[] args) {
        new RangesTest("a new object", UnguessedRound::new, 0, 6).all();
        new RangesTest("a FAULT", () -> furnished("01;2;", 2, 6), 0, 6).all();
        new RangesTest("sixty bytes", () -> furnished("0;1".repeat(20), 2, 6), 0, 6).all();
        new RangesTest("one NIGHT", () -> furnished("3", 5, 1), 1, 1).all();
        new RangesTest("two NIGHTS", () -> furnished("01;10", 1, 7), 2, 7).all();
        new RangesTest("eight NIGHTS", () -> furnished(String.join(";", EIGHT), 2, 20), 8, 20).all();
        D.end();
    }

    private static UnguessedRound furnished(String nights, int look, int need) {
        UnguessedRound x = Due.told(nights);
        x.set(0, look);
        x.set(1, need);
        x.worth(1, 60);
        x.worth(4, 0);
        x.way(0, 1, 9);
        x.way(2, 5, 1);
        x.sheet(0, 0, 48);
        x.put(0, 0, 47, -7);
        x.sheet(1, 1, 3);
        x.put(1, 1, 0, 3000);
        x.sheet(2, 2, 0);
        x.put(2, 1, 0, 0);
        return x;
    }

    private void all() {
        sheds();
        watch();
        lots();
        sheets();
    }

    private void sheds() {
        edges("type", BAD, (x, v) -> x.type(v[0]), new int[] {0, 255});
        edges("worth", BAD, (x, v) -> x.worth(v[0], v[1]), SHED, new int[] {0, 99});
        edges("way to 3", BAD, (x, v) -> x.way(v[0], 3, v[1]), SHED, new int[] {1, 9});
        edges("way from 3", BAD, (x, v) -> x.way(3, v[0], v[1]), SHED, new int[] {1, 9});
        edges("set LOOK", BAD, (x, v) -> x.set(0, v[0]), new int[] {1, 5});
        edges("set NEED", BAD, (x, v) -> x.set(1, v[0]), new int[] {1, 20});
        edges("set", BAD, (x, v) -> x.set(v[0], 1), PART);
        edges("read", BAD, (x, v) -> x.read(v[0]), SHEET);
        edges("night", BAD, (x, v) -> x.night(v[0], v[1]), night, SHED);
    }

    private void watch() {
        edges("at", BAD, (x, v) -> x.at(v[0], v[1]), night, new int[] {0, 59});
        edges("when", BAD, (x, v) -> x.when(v[0], v[1]), night, SHED);
        edges("alone", BAD, (x, v) -> x.alone(v[0], v[1], v[2]), night, SHED, PART);
        edges("steals", BAD, (x, v) -> x.steals(v[0], v[1], v[2]), night, SHED, start);
        edges("next", Due.LONG_BAD, (x, v) -> x.next(v[0], v[1], v[2], v[3]),
            new int[] {0, told}, new int[] {NONE, 5}, SHED, PART);
        edges("likely", Due.LONG_BAD, (x, v) -> x.likely(v[0], v[1]), night, PART);
        edges("fresh", BAD, (x, v) -> x.fresh(v[0]), new int[] {NONE, 5});
    }

    private void lots() {
        edges("breaks", BAD, (x, v) -> x.breaks(v[0], v[1], v[2], v[3]), night, night, SIXTEENTHS, new int[] {0, 2});
        edges("seen", BAD, (x, v) -> x.seen(v[0], v[1], v[2], v[3], v[4]),
            night, night, SIXTEENTHS, SHED, new int[] {0, 2});
        edges("least", Due.LONG_BAD, (x, v) -> x.least(v[0], v[1], v[2]), night, night, new int[] {0, 3});
        edges("lamp", BAD, (x, v) -> x.lamp(v[0], v[1], v[2], v[3]), night, night, SIXTEENTHS, SHED);
        edges("learn", BAD, (x, v) -> x.learn(v[0], v[1], v[2], v[3]), night, night, new int[] {1, 99}, PART);
        edges("dice", Due.LONG_BAD, (x, v) -> x.dice(v[0], v[1], v[2]), night, SIXTEENTHS, new int[] {NONE, 1});
        edges("seeds", BAD, (x, v) -> x.seeds(v[0]), PART);
    }

    private void sheets() {
        edges("sheet", BAD, (x, v) -> x.sheet(v[0], v[1], v[2]), SHEET, FORM, new int[] {LEAST, 48});
        edges("lose", BAD, (x, v) -> x.lose(v[0]), SHEET);
        edges("put", BAD, (x, v) -> x.put(v[0], v[1], v[2], v[3]), SHEET, FORM, FREE, FREE);
        edges("copy", BAD, (x, v) -> x.copy(v[0], v[1], v[2], v[3], v[4]), SHEET, FREE, SHEET, FREE, FREE);
        edges("write", BAD, (x, v) -> x.write(v[0], v[1]), night, SHEET);
        edges("count", BAD, (x, v) -> x.count(v[0]), new int[] {0, 8});
        getEdges();
    }

    /** What is BAD and what has a FINDING is told alike by get(); only the latter leaves another FINDING than SIZE. */
    private void getEdges() {
        for (int[] v : rows(SHEET, FORM, FREE)) {
            UnguessedRound x = made.get();
            x.sheet(0, 0, -1);
            D.due(scene + ": get " + told(v), x.get(v[0], v[1], v[2]), LEAST);
            D.due(scene + ": get " + told(v) + " is taken", x.count(8) != 5 ? 1 : 0, 1);
        }
        refusals("get", LEAST, (x, v) -> x.get(v[0], v[1], v[2]), SHEET, FORM, FREE);
    }

    private void edges(String name, long bad, Act act, int[]... ranges) {
        for (int[] v : rows(ranges)) {
            boolean taken = act.on(made.get(), v) != bad;
            D.due(scene + ": " + name + " " + told(v) + " is taken", taken ? 1 : 0, 1);
        }
        refusals(name, bad, act, ranges);
    }

    private void refusals(String name, long bad, Act act, int[]... ranges) {
        for (int place = 0; place < ranges.length; place++) {
            for (int out : beside(ranges[place])) {
                int[][] values = withoutEmptyOnes(ranges);
                values[place] = new int[] {out};
                for (int[] v : rows(values)) {
                    D.refused(scene + ": " + name + " " + told(v), made, x -> act.on(x, v), bad, Due.NO_FINDING);
                }
            }
        }
    }

    private static int[] beside(int[] range) {
        if (range == FREE) {
            return new int[0];
        }
        if (range[0] == LEAST) {
            return new int[] {range[1] + 1, MOST};
        }
        return new int[] {range[0] - 1, range[1] + 1, LEAST, MOST};
    }

    /** Where there is no NIGHT, 0 stands for one: the call is refused by another number, too. */
    private static int[][] withoutEmptyOnes(int[][] ranges) {
        int[][] values = ranges.clone();
        for (int i = 0; i < values.length; i++) {
            values[i] = values[i][0] > values[i][1] ? new int[] {0} : values[i];
        }
        return values;
    }

    /** All rows that take one value of each; of a range without a value, none. */
    private static List<int[]> rows(int[]... values) {
        List<int[]> rows = new ArrayList<>();
        rows.add(new int[values.length]);
        for (int place = 0; place < values.length; place++) {
            List<int[]> longer = new ArrayList<>();
            boolean empty = values[place].length == 2 && values[place][0] > values[place][1];
            for (int[] row : empty ? List.<int[]>of() : rows) {
                for (int v : values[place]) {
                    int[] next = row.clone();
                    next[place] = v;
                    longer.add(next);
                }
            }
            rows = longer;
        }
        return rows;
    }

    private static String told(int[] v) {
        StringBuilder text = new StringBuilder();
        for (int i = 0; i < v.length; i++) {
            text.append(i == 0 ? "" : ", ").append(v[i]);
        }
        return text.toString();
    }
}
