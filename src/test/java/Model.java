import java.math.BigInteger;
import java.util.ArrayList;
import java.util.HashMap;
import java.util.List;
import java.util.Map;

/**
 * The document once more, in another way: minute by minute, row by row, and without a care for time.
 * Its answers are held against those of UnguessedRound in long runs of calls.
 */
final class Model {
    private static final int NONE = -1, BAD = -2, NOT = -3, FULL = -4;
    private static final long LONG_BAD = Due.LONG_BAD;

    private String text = "";
    private String textOfNights = "";
    private List<String> nights = List.of();
    private final int[] worths = {10, 10, 10, 10, 10, 10};
    private final Map<String, Integer> ways = new HashMap<>();
    private int look = 2;
    private int need = 6;
    private final int[][] rows = new int[4][];
    private final int[] forms = new int[4];
    private int latest = 0;

    // ---- what the text tells

    int fault() {
        if (text.isEmpty()) {
            return NONE;
        }
        for (int end = 1; end <= text.length(); end++) {
            if (!canStandAhead(text.substring(0, end))) {
                return end - 1;
            }
        }
        return text.endsWith(";") ? text.length() : NONE;
    }

    /** Whether some text that is well begins so. */
    private static boolean canStandAhead(String begun) {
        String[] parts = begun.split(";", -1);
        for (int i = 0; i < parts.length; i++) {
            boolean last = i == parts.length - 1;
            boolean distinct = parts[i].chars().distinct().count() == parts[i].length();
            if (!parts[i].matches(last ? "[0-5]*" : "[0-5]+") || !distinct) {
                return false;
            }
        }
        return parts.length <= 8 || parts.length == 9 && parts[8].isEmpty();
    }

    private List<String> nights() {
        if (!textOfNights.equals(text)) {
            textOfNights = text;
            nights = text.isEmpty() || fault() != NONE ? List.of() : List.of(text.split(";"));
        }
        return nights;
    }

    private boolean told(int night) {
        return night >= 0 && night < nights().size();
    }

    private static boolean in(int v, int low, int high) {
        return low <= v && v <= high;
    }

    private int wayOf(int a, int b) {
        return ways.getOrDefault(Math.min(a, b) + "-" + Math.max(a, b), 3);
    }

    private int[] minutes(String night) {
        List<Integer> row = new ArrayList<>();
        for (int i = 0; i < night.length(); i++) {
            int shed = night.charAt(i) - '0';
            for (int m = 0; i > 0 && m < wayOf(night.charAt(i - 1) - '0', shed); m++) {
                row.add(NONE);
            }
            for (int m = 0; m < look; m++) {
                row.add(shed);
            }
        }
        int[] minutes = new int[60];
        for (int m = 0; m < 60; m++) {
            minutes[m] = m < row.size() ? row.get(m) : NONE;
        }
        return minutes;
    }

    private int had(int[] minutes, int shed, int start) {
        for (int m = start; m < start + need; m++) {
            if (minutes[m] == shed) {
                return 0;
            }
        }
        return worths[shed];
    }

    // ---- sheds, nights

    int type(int b) {
        if (!in(b, 0, 255)) {
            return BAD;
        }
        if (text.length() == 60) {
            return FULL;
        }
        text += (char) b;
        return text.length();
    }

    int wipe() {
        int was = text.length();
        text = "";
        return was;
    }

    int worth(int shed, int v) {
        if (!in(shed, 0, 5) || !in(v, 0, 99)) {
            return BAD;
        }
        int was = worths[shed];
        worths[shed] = v;
        return was;
    }

    int way(int a, int b, int v) {
        if (!in(a, 0, 5) || !in(b, 0, 5) || a == b || !in(v, 1, 9)) {
            return BAD;
        }
        int was = wayOf(a, b);
        ways.put(Math.min(a, b) + "-" + Math.max(a, b), v);
        return was;
    }

    int set(int what, int v) {
        if (!in(what, 0, 1) || !in(v, 1, what == 0 ? 5 : 20)) {
            return BAD;
        }
        int was = what == 0 ? look : need;
        look = what == 0 ? v : look;
        need = what == 1 ? v : need;
        return was;
    }

    int read(int s) {
        if (!in(s, 0, 3)) {
            return BAD;
        }
        if (rows[s] == null) {
            return found(1);
        }
        int done = 0;
        for (int v : rows[s]) {
            if (done == 6 || !in(v, 0, 99)) {
                break;
            }
            worths[done++] = v;
        }
        return done;
    }

    int night(int night, int i) {
        if (!told(night) || !in(i, 0, 5)) {
            return BAD;
        }
        String sheds = nights().get(night);
        return i < sheds.length() ? sheds.charAt(i) - '0' : NONE;
    }

    // ---- where the watch is

    int at(int night, int minute) {
        return told(night) && in(minute, 0, 59) ? minutes(nights().get(night))[minute] : BAD;
    }

    int when(int night, int shed) {
        if (!told(night) || !in(shed, 0, 5)) {
            return BAD;
        }
        int[] minutes = minutes(nights().get(night));
        for (int m = 0; m < 60; m++) {
            if (minutes[m] == shed) {
                return m;
            }
        }
        return NONE;
    }

    int alone(int night, int shed, int what) {
        if (!told(night) || !in(shed, 0, 5) || !in(what, 0, 1)) {
            return BAD;
        }
        int[] minutes = minutes(nights().get(night));
        for (int howMany = 60; howMany > 0; howMany--) {
            for (int first = 0; first + howMany <= 60; first++) {
                boolean free = true;
                for (int m = first; m < first + howMany; m++) {
                    free &= minutes[m] != shed;
                }
                if (free) {
                    return what == 0 ? howMany : first;
                }
            }
        }
        throw new IllegalStateException("a watch that is always there");
    }

    int steals(int night, int shed, int minute) {
        boolean well = told(night) && in(shed, 0, 5) && in(minute, 0, 60 - need);
        return well ? had(minutes(nights().get(night)), shed, minute) : BAD;
    }

    // ---- the book

    private List<String> steps(int k) {
        List<String> steps = new ArrayList<>();
        for (String night : nights().subList(0, k)) {
            String behindPorch = "p" + night;
            for (int i = 0; i < night.length(); i++) {
                steps.add(behindPorch.substring(i, i + 2));
            }
        }
        return steps;
    }

    private BigInteger[] nextOf(int k, char a, char b) {
        if (a == b) {
            return fraction(0, 1);
        }
        long so = steps(k).stream().filter(s -> s.equals("" + a + b)).count();
        long any = steps(k).stream().filter(s -> s.charAt(0) == a).count();
        return fraction(so + 1, any + (a == 'p' ? 6 : 5));
    }

    private static BigInteger[] fraction(long above, long below) {
        return lowest(BigInteger.valueOf(above), BigInteger.valueOf(below));
    }

    private static BigInteger[] lowest(BigInteger above, BigInteger below) {
        BigInteger divisor = above.gcd(below);
        return new BigInteger[] {above.divide(divisor), below.divide(divisor)};
    }

    private static BigInteger[] product(BigInteger[] a, BigInteger[] b) {
        return lowest(a[0].multiply(b[0]), a[1].multiply(b[1]));
    }

    long next(int k, int a, int b, int what) {
        if (!in(k, 0, nights().size()) || !in(a, NONE, 5) || !in(b, 0, 5) || !in(what, 0, 1)) {
            return LONG_BAD;
        }
        return nextOf(k, a == NONE ? 'p' : (char) ('0' + a), (char) ('0' + b))[what].longValueExact();
    }

    long likely(int night, int what) {
        if (!told(night) || !in(what, 0, 1)) {
            return LONG_BAD;
        }
        BigInteger[] all = fraction(1, 1);
        String row = "p" + nights().get(night);
        for (int i = 1; i < row.length(); i++) {
            all = product(all, nextOf(night, row.charAt(i - 1), row.charAt(i)));
        }
        return all[what].longValueExact();
    }

    int fresh(int i) {
        if (!in(i, NONE, 5)) {
            return BAD;
        }
        List<String> rows = new ArrayList<>();
        addRows("p", steps(nights().size()), rows);
        return i == NONE ? rows.size() : rows.isEmpty() ? NONE : rows.get(0).charAt(i + 1) - '0';
    }

    private static void addRows(String begun, List<String> steps, List<String> rows) {
        if (begun.length() == 7) {
            rows.add(begun);
            return;
        }
        for (char shed = '0'; shed <= '5'; shed++) {
            if (begun.indexOf(shed) < 0 && !steps.contains("" + begun.charAt(begun.length() - 1) + shed)) {
                addRows(begun + shed, steps, rows);
            }
        }
    }

    // ---- lots

    /** What each BREAK has in a NIGHT: [shed][minute]. */
    private int[][] hauls(int night) {
        int[] minutes = minutes(nights().get(night));
        int[][] hauls = new int[6][61 - need];
        for (int shed = 0; shed < 6; shed++) {
            for (int m = 0; m <= 60 - need; m++) {
                hauls[shed][m] = had(minutes, shed, m);
            }
        }
        return hauls;
    }

    /** SHED, MINUTE, mean: the greatest mean, of all of these the first in order. */
    private static int[] best(int[][] a, int p, int[][] b, int q, int from, int lamp) {
        List<int[]> all = new ArrayList<>();
        for (int shed = 0; shed < 6; shed++) {
            for (int m = from; m < a[shed].length; m++) {
                if (shed != lamp) {
                    all.add(new int[] {shed, m, p * a[shed][m] + q * b[shed][m]});
                }
            }
        }
        int most = all.stream().mapToInt(t -> t[2]).max().getAsInt();
        return all.stream().filter(t -> t[2] == most).findFirst().get();
    }

    int breaks(int a, int b, int p, int what) {
        boolean well = told(a) && told(b) && in(p, 0, 16) && in(what, 0, 2);
        return well ? best(hauls(a), p, hauls(b), 16 - p, 0, NONE)[what] : BAD;
    }

    int seen(int a, int b, int p, int shed, int what) {
        if (!told(a) || !told(b) || !in(p, 0, 16) || !in(shed, 0, 5) || !in(what, 0, 2)) {
            return BAD;
        }
        int ofA = at(a, 0) == shed ? p : 0;
        int ofB = at(b, 0) == shed ? 16 - p : 0;
        return ofA == 0 && ofB == 0 ? NOT : best(hauls(a), ofA, hauls(b), ofB, 1, NONE)[what];
    }

    int lamp(int a, int b, int p, int shed) {
        if (!told(a) || !told(b) || !in(p, 0, 16) || !in(shed, 0, 5)) {
            return BAD;
        }
        return best(hauls(a), p, hauls(b), 16 - p, 0, NONE)[2] - best(hauls(a), p, hauls(b), 16 - p, 0, shed)[2];
    }

    /** The least of the upper envelope lies where two of its lines meet, or at an end. */
    long least(int a, int b, int what) {
        if (!told(a) || !told(b) || !in(what, 0, 3)) {
            return LONG_BAD;
        }
        List<int[]> lines = lines(hauls(a), hauls(b));
        List<long[]> lots = new ArrayList<>(List.of(new long[] {0, 1}, new long[] {1, 1}));
        for (int[] x : lines) {
            for (int[] y : lines) {
                long below = x[0] - x[1] - y[0] + y[1];
                long above = y[1] - x[1];
                if (below > 0 && above >= 0 && above <= below) {
                    lots.add(new long[] {above, below});
                }
            }
        }
        long[] best = null;
        for (long[] lot : lots) {
            long[] t = {lot[0], lot[1], most(lines, lot)};
            if (best == null || t[2] * best[1] < best[2] * t[1]
                || t[2] * best[1] == best[2] * t[1] && t[0] * best[1] < best[0] * t[1]) {
                best = t;
            }
        }
        return fraction(what < 2 ? best[0] : best[2], best[1])[what % 2].longValueExact();
    }

    private static List<int[]> lines(int[][] a, int[][] b) {
        Map<String, int[]> lines = new HashMap<>();
        for (int shed = 0; shed < 6; shed++) {
            for (int m = 0; m < a[shed].length; m++) {
                lines.put(a[shed][m] + "," + b[shed][m], new int[] {a[shed][m], b[shed][m]});
            }
        }
        return new ArrayList<>(lines.values());
    }

    /** What thieves have on the mean by a lot, times what the lot has below. */
    private static long most(List<int[]> lines, long[] lot) {
        long most = 0;
        for (int[] line : lines) {
            most = Math.max(most, lot[0] * line[0] + (lot[1] - lot[0]) * line[1]);
        }
        return most;
    }

    int learn(int a, int b, int n, int what) {
        if (!told(a) || !told(b) || !in(n, 1, 99) || !in(what, 0, 1)) {
            return BAD;
        }
        int[][] inA = hauls(a);
        int[][] inB = hauls(b);
        List<Boolean> rounds = new ArrayList<>();
        List<int[]> thefts = new ArrayList<>();
        for (int night = 0; night < n; night++) {
            int ofA = thefts.stream().mapToInt(t -> inA[t[0]][t[1]]).sum();
            int ofB = thefts.stream().mapToInt(t -> inB[t[0]][t[1]]).sum();
            int goneA = (int) rounds.stream().filter(r -> r).count();
            thefts.add(best(inA, goneA, inB, rounds.size() - goneA, 0, NONE));
            rounds.add(ofA <= ofB);
        }
        int had = 0;
        for (int night = 0; night < n; night++) {
            int[] t = thefts.get(night);
            had += rounds.get(night) ? inA[t[0]][t[1]] : inB[t[0]][t[1]];
        }
        return what == 0 ? (int) rounds.stream().filter(r -> r).count() : had;
    }

    // ---- dice

    long dice(int night, int p, int what) {
        if (!told(night) || !in(p, 0, 16) || !in(what, NONE, 1)) {
            return LONG_BAD;
        }
        int all = nights().size();
        int so = (int) nights().stream().filter(nights().get(night)::equals).count();
        if (what == NONE) {
            return so;
        }
        long ways = 0;
        for (int pick = 0; pick < 1 << all; pick++) {
            ways += Integer.bitCount(pick) == so ? 1 : 0;
        }
        BigInteger above = BigInteger.valueOf(ways).multiply(BigInteger.valueOf(p).pow(so))
            .multiply(BigInteger.valueOf(16 - p).pow(all - so));
        return lowest(above, BigInteger.valueOf(16).pow(all))[what].longValueExact();
    }

    int seeds(int what) {
        if (!in(what, 0, 1)) {
            return BAD;
        }
        List<Integer> fit = new ArrayList<>();
        for (int first = 0; first < 100; first++) {
            BigInteger seed = BigInteger.valueOf(first);
            boolean fits = true;
            for (String night : nights()) {
                seed = seed.multiply(BigInteger.valueOf(1103515245)).add(BigInteger.valueOf(12345))
                    .mod(BigInteger.ONE.shiftLeft(32));
                fits &= seed.testBit(16) != night.equals(nights().get(0));
            }
            if (fits) {
                fit.add(first);
            }
        }
        return what == 0 ? fit.size() : fit.isEmpty() ? NONE : fit.get(0);
    }

    // ---- sheets

    private int found(int finding) {
        latest = finding;
        return -10 - finding;
    }

    int sheet(int s, int form, int n) {
        if (!in(s, 0, 3) || !in(form, 0, 2) || n > 48) {
            return BAD;
        }
        if (n < 0) {
            return found(5);
        }
        rows[s] = new int[n];
        forms[s] = form;
        return n;
    }

    int lose(int s) {
        if (!in(s, 0, 3)) {
            return BAD;
        }
        if (rows[s] == null) {
            return found(1);
        }
        int was = rows[s].length;
        rows[s] = null;
        return was;
    }

    private int hindrance(int s, int form, int i) {
        return rows[s] == null ? 1 : forms[s] != form ? 3 : in(i, 0, rows[s].length - 1) ? 0 : 2;
    }

    private void store(int s, int i, int v) {
        int unused = forms[s] == 0 ? 24 : forms[s] == 1 ? 16 : 0;
        rows[s][i] = v << unused >> unused;
    }

    int put(int s, int form, int i, int v) {
        if (!in(s, 0, 3) || !in(form, 0, 2)) {
            return BAD;
        }
        if (hindrance(s, form, i) != 0) {
            return found(hindrance(s, form, i));
        }
        store(s, i, v);
        return 1;
    }

    int get(int s, int form, int i) {
        if (!in(s, 0, 3) || !in(form, 0, 2)) {
            return Integer.MIN_VALUE;
        }
        if (hindrance(s, form, i) != 0) {
            found(hindrance(s, form, i));
            return Integer.MIN_VALUE;
        }
        return rows[s][i];
    }

    int copy(int s, int i, int t, int j, int n) {
        if (!in(s, 0, 3) || !in(t, 0, 3)) {
            return BAD;
        }
        if (rows[s] == null || rows[t] == null) {
            return found(1);
        }
        if (forms[s] != forms[t]) {
            return found(4);
        }
        boolean there = i >= 0 && j >= 0 && n >= 0 && (long) i + n <= rows[s].length && (long) j + n <= rows[t].length;
        if (!there) {
            return found(2);
        }
        System.arraycopy(rows[s], i, rows[t], j, n);
        return 1;
    }

    int write(int night, int s) {
        if (!told(night) || !in(s, 0, 3)) {
            return BAD;
        }
        if (rows[s] == null) {
            return found(1);
        }
        for (int m = 0; m < rows[s].length; m++) {
            store(s, m, at(night, m));
        }
        return rows[s].length;
    }

    int count(int what) {
        int sum = 0;
        for (int a = 0; a < 6; a++) {
            sum += what == 4 ? worths[a] : 0;
            for (int b = 0; b < a; b++) {
                sum += what == 5 ? wayOf(a, b) : 0;
            }
        }
        int all = nights().size();
        int[] counts = {all, text.length(), look, need, sum, sum,
            (int) steps(all).stream().distinct().count(), steps(all).size(), latest};
        return in(what, 0, 8) ? counts[what] : BAD;
    }
}
