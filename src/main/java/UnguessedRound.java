/**
 * The rounds of a harbour's watch, and the thieves on the roof who write them down.
 * The document behind it (DOC.md) numbers what each call promises.
 */
public final class UnguessedRound {
    public static final int NONE = -1, BAD = -2, NOT = -3, FULL = -4;

    private static final int SHEDS = 6, MINUTES = 60, SIXTEENTHS = 16, MOST_NIGHTS = 8;
    private static final int NO_ITEM = -2147483648;
    private static final long LEAST_LONG = -9223372036854775808L;
    private static final int NULL = 1, INDEX = 2, CAST = 3, STORE = 4, SIZE = 5;

    private final Harbour harbour;
    private final Nights nights;
    private final Watch watch;
    private final Book book;
    private final Thieves thieves;
    private final Dice dice;
    private final Sheets sheets;

    public UnguessedRound() {
        Harbour ground = new Harbour();
        Nights text = new Nights();
        Watch round = new Watch(ground, text);
        harbour = ground;
        nights = text;
        watch = round;
        book = new Book(text);
        thieves = new Thieves(ground, round);
        dice = new Dice(text);
        sheets = new Sheets();
    }

    // ---- sheds, nights

    public int type(int b) {
        if (!within(b, 0, 255)) {
            return BAD;
        }
        return nights.add(b) ? nights.size : FULL;
    }

    public int wipe() {
        return nights.empty();
    }

    public int fault() {
        return nights.faultAt;
    }

    public int worth(int shed, int v) {
        if (!isShed(shed) || !isWorth(v)) {
            return BAD;
        }
        return harbour.changeWorth(shed, v);
    }

    public int way(int a, int b, int v) {
        if (!isShed(a) || !isShed(b) || a == b || !within(v, 1, 9)) {
            return BAD;
        }
        return harbour.changeWay(a, b, v);
    }

    public int set(int what, int v) {
        if (what == 0 && within(v, 1, 5)) {
            return harbour.changeLook(v);
        }
        if (what == 1 && within(v, 1, 20)) {
            return harbour.changeNeed(v);
        }
        return BAD;
    }

    public int read(int s) {
        if (!isSheet(s)) {
            return BAD;
        }
        if (sheets.isLost(s)) {
            return sheets.found(NULL);
        }
        int shed = 0;
        while (shed < SHEDS && shed < sheets.sizeOf(s) && isWorth(sheets.itemOf(s, shed))) {
            harbour.changeWorth(shed, sheets.itemOf(s, shed));
            shed++;
        }
        return shed;
    }

    public int night(int night, int i) {
        if (!nights.isTold(night) || !within(i, 0, SHEDS - 1)) {
            return BAD;
        }
        return nights.shedOf(night, i);
    }

    // ---- where the watch is

    public int at(int night, int minute) {
        if (!nights.isTold(night) || !within(minute, 0, MINUTES - 1)) {
            return BAD;
        }
        return watch.shedIn(night, minute);
    }

    public int when(int night, int shed) {
        if (!nights.isTold(night) || !isShed(shed)) {
            return BAD;
        }
        return watch.comesTo(night, shed);
    }

    public int alone(int night, int shed, int what) {
        if (!nights.isTold(night) || !isShed(shed) || !within(what, 0, 1)) {
            return BAD;
        }
        return what == 0 ? watch.aloneFor(night, shed) : watch.aloneFrom(night, shed);
    }

    public int steals(int night, int shed, int minute) {
        if (!nights.isTold(night) || !isShed(shed) || !within(minute, 0, MINUTES - harbour.need)) {
            return BAD;
        }
        return thieves.haul(shed, minute, watch.comesTo(night, shed));
    }

    // ---- the book

    public long next(int k, int a, int b, int what) {
        if (!within(k, 0, nights.told) || !within(a, NONE, SHEDS - 1) || !isShed(b) || !within(what, 0, 1)) {
            return refusal(BAD);
        }
        return book.nextBehind(k, a, b).part(what);
    }

    public long likely(int night, int what) {
        if (!nights.isTold(night) || !within(what, 0, 1)) {
            return refusal(BAD);
        }
        return book.likelihood(night).part(what);
    }

    public int fresh(int i) {
        if (!within(i, NONE, SHEDS - 1)) {
            return BAD;
        }
        book.findEndings();
        return i == NONE ? book.endingsBehind(0, NONE) : book.leastNewRow(i);
    }

    // ---- lots

    public int breaks(int a, int b, int p, int what) {
        if (!isLot(a, b, p) || !within(what, 0, 2)) {
            return BAD;
        }
        thieves.seek(a, p, b, SIXTEENTHS - p, 0, NONE);
        return thieves.part(what);
    }

    public int seen(int a, int b, int p, int shed, int what) {
        if (!isLot(a, b, p) || !isShed(shed) || !within(what, 0, 2)) {
            return BAD;
        }
        int leftOfA = nights.shedOf(a, 0) == shed ? p : 0;
        int leftOfB = nights.shedOf(b, 0) == shed ? SIXTEENTHS - p : 0;
        if (leftOfA + leftOfB == 0) {
            return NOT;
        }
        thieves.seek(a, leftOfA, b, leftOfB, 1, NONE);
        return thieves.part(what);
    }

    public long least(int a, int b, int what) {
        if (!nights.isTold(a) || !nights.isTold(b) || !within(what, 0, 3)) {
            return refusal(BAD);
        }
        return what < 2 ? thieves.leastLot(a, b).part(what) : thieves.leastMean(a, b).part(what - 2);
    }

    public int lamp(int a, int b, int p, int shed) {
        if (!isLot(a, b, p) || !isShed(shed)) {
            return BAD;
        }
        thieves.seek(a, p, b, SIXTEENTHS - p, 0, NONE);
        int dark = thieves.part(2);
        thieves.seek(a, p, b, SIXTEENTHS - p, 0, shed);
        return dark - thieves.part(2);
    }

    public int learn(int a, int b, int n, int what) {
        if (!nights.isTold(a) || !nights.isTold(b) || !within(n, 1, 99) || !within(what, 0, 1)) {
            return BAD;
        }
        thieves.learnBy(a, b, n);
        return what == 0 ? thieves.gone : thieves.had;
    }

    // ---- dice

    public long dice(int night, int p, int what) {
        if (!nights.isTold(night) || !isSixteenths(p) || !within(what, NONE, 1)) {
            return refusal(BAD);
        }
        return what == NONE ? dice.alike(night) : dice.chance(night, p).part(what);
    }

    public int seeds(int what) {
        if (!within(what, 0, 1)) {
            return BAD;
        }
        return what == 0 ? dice.fittingSeeds() : dice.leastSeed();
    }

    // ---- sheets

    public int sheet(int s, int form, int n) {
        if (!isSheet(s) || !isForm(form) || n > Sheets.MOST_ITEMS) {
            return BAD;
        }
        if (n < 0) {
            return sheets.found(SIZE);
        }
        sheets.make(s, form, n);
        return n;
    }

    public int lose(int s) {
        if (!isSheet(s)) {
            return BAD;
        }
        return sheets.isLost(s) ? sheets.found(NULL) : sheets.drop(s);
    }

    public int put(int s, int form, int i, int v) {
        if (!isSheet(s) || !isForm(form)) {
            return BAD;
        }
        int finding = sheets.hindrance(s, form, i);
        if (finding != 0) {
            return sheets.found(finding);
        }
        sheets.change(s, i, v);
        return 1;
    }

    public int get(int s, int form, int i) {
        if (!isSheet(s) || !isForm(form)) {
            return NO_ITEM;
        }
        int finding = sheets.hindrance(s, form, i);
        if (finding != 0) {
            sheets.found(finding);
            return NO_ITEM;
        }
        return sheets.itemOf(s, i);
    }

    public int copy(int s, int i, int t, int j, int n) {
        if (!isSheet(s) || !isSheet(t)) {
            return BAD;
        }
        if (sheets.isLost(s) || sheets.isLost(t)) {
            return sheets.found(NULL);
        }
        if (sheets.formOf(s) != sheets.formOf(t)) {
            return sheets.found(STORE);
        }
        if (!sheets.hasItems(s, i, n) || !sheets.hasItems(t, j, n)) {
            return sheets.found(INDEX);
        }
        sheets.move(s, i, t, j, n);
        return 1;
    }

    public int write(int night, int s) {
        if (!nights.isTold(night) || !isSheet(s)) {
            return BAD;
        }
        if (sheets.isLost(s)) {
            return sheets.found(NULL);
        }
        int size = sheets.sizeOf(s);
        for (int minute = 0; minute < size; minute++) {
            sheets.change(s, minute, watch.shedIn(night, minute));
        }
        return size;
    }

    public int count(int what) {
        switch (what) {
            case 0: return nights.told;
            case 1: return nights.size;
            case 2: return harbour.look;
            case 3: return harbour.need;
            case 4: return harbour.allWorths();
            case 5: return harbour.allWays();
            case 6: return book.unlikeSteps();
            case 7: return book.allSteps();
            case 8: return sheets.latest;
            default: return BAD;
        }
    }

    public long digest() {
        long h = 17;
        for (int what = 0; what <= 7; what++) {
            h = join(h, count(what));
        }
        h = join(h, fault());
        for (int night = 0; night < nights.told; night++) {
            h = joinNight(h, night);
        }
        h = joinBook(h);
        h = joinLots(h);
        return join(join(h, seeds(0)), seeds(1));
    }

    private long joinNight(long hash, int night) {
        long h = hash;
        for (int i = 0; i < SHEDS; i++) {
            h = join(h, night(night, i));
        }
        h = join(join(join(h, at(night, 0)), at(night, 7)), at(night, 20));
        for (int shed = 0; shed < SHEDS; shed++) {
            h = join(h, when(night, shed));
            h = join(join(h, alone(night, shed, 0)), alone(night, shed, 1));
        }
        h = join(h, steals(night, 1, 5));
        h = join(join(h, likely(night, 0)), likely(night, 1));
        return join(join(h, dice(night, 4, 0)), dice(night, 4, 1));
    }

    private long joinBook(long hash) {
        int all = nights.told;
        long h = join(join(hash, next(all, NONE, 0, 0)), next(all, NONE, 0, 1));
        h = join(join(h, next(all, 1, 2, 0)), next(all, 1, 2, 1));
        for (int i = NONE; i < SHEDS; i++) {
            h = join(h, fresh(i));
        }
        return h;
    }

    private long joinLots(long hash) {
        long h = hash;
        for (int what = 0; what <= 2; what++) {
            h = join(h, breaks(0, 1, 6, what));
        }
        for (int what = 0; what <= 2; what++) {
            h = join(h, seen(0, 1, 6, 0, what));
        }
        for (int what = 0; what <= 3; what++) {
            h = join(h, least(0, 1, what));
        }
        h = join(h, lamp(0, 1, 6, 2));
        return join(join(h, learn(0, 1, 20, 0)), learn(0, 1, 20, 1));
    }

    private static long join(long h, long value) {
        return 31 * h + value;
    }

    private static long refusal(int answer) {
        return LEAST_LONG - answer;
    }

    private boolean isLot(int a, int b, int p) {
        return nights.isTold(a) && nights.isTold(b) && isSixteenths(p);
    }

    private static boolean isSixteenths(int p) {
        return within(p, 0, SIXTEENTHS);
    }

    private static boolean isShed(int shed) {
        return within(shed, 0, SHEDS - 1);
    }

    private static boolean isWorth(int v) {
        return within(v, 0, 99);
    }

    private static boolean isSheet(int s) {
        return within(s, 0, Sheets.ALL - 1);
    }

    private static boolean isForm(int form) {
        return within(form, 0, 2);
    }

    private static boolean within(int v, int low, int high) {
        return v >= low && v <= high;
    }

    // Every row is read by item() and changed by keep(), so that no index can leave its row.

    private static int item(int[] row, int i) {
        return i >= 0 && i < row.length ? row[i] : 0;
    }

    private static void keep(int[] row, int i, int v) {
        if (i >= 0 && i < row.length) {
            row[i] = v;
        }
    }

    private static void fill(int[] row, int v) {
        for (int i = 0; i < row.length; i++) {
            row[i] = v;
        }
    }

    /** What the SHEDS are worth, the WAYS between them, and how long watch and thieves take. */
    private static final class Harbour {
        private final int[] worths = new int[SHEDS];
        private final int[] ways = new int[SHEDS * SHEDS];
        private int look = 2;
        private int need = 6;

        private Harbour() {
            for (int i = 0; i < worths.length; i++) {
                worths[i] = 10;
            }
            for (int i = 0; i < ways.length; i++) {
                ways[i] = 3;
            }
        }

        private int worthOf(int shed) {
            return shed >= 0 && shed < worths.length ? worths[shed] : 0;
        }

        private int changeWorth(int shed, int v) {
            int was = worthOf(shed);
            keep(worths, shed, v);
            return was;
        }

        private int wayOf(int a, int b) {
            boolean both = a >= 0 && a < SHEDS && b >= 0 && b < SHEDS;
            int i = both ? a * SHEDS + b : NONE;
            return i >= 0 && i < ways.length ? ways[i] : 0;
        }

        private int changeWay(int a, int b, int v) {
            int was = wayOf(a, b);
            keep(ways, a * SHEDS + b, v);
            keep(ways, b * SHEDS + a, v);
            return was;
        }

        private int changeLook(int v) {
            int was = look;
            look = v;
            return was;
        }

        private int changeNeed(int v) {
            int was = need;
            need = v;
            return was;
        }

        private int allWorths() {
            int sum = 0;
            for (int shed = 0; shed < SHEDS; shed++) {
                sum += worthOf(shed);
            }
            return sum;
        }

        private int allWays() {
            int sum = 0;
            for (int a = 0; a < SHEDS; a++) {
                for (int b = a + 1; b < SHEDS; b++) {
                    sum += wayOf(a, b);
                }
            }
            return sum;
        }
    }

    /** NIGHTS as a text, and what it tells while it has no FAULT. */
    private static final class Nights {
        private static final int MOST_BYTES = 60;

        private final int[] bytes = new int[MOST_BYTES];
        private final int[] sheds = new int[MOST_NIGHTS * SHEDS];
        private final int[] lengths = new int[MOST_NIGHTS];
        private int size = 0;
        private int told = 0;
        private int faultAt = NONE;
        private int open = 0;
        private int taken = 0;

        private boolean add(int b) {
            if (size >= MOST_BYTES) {
                return false;
            }
            keep(bytes, size, b);
            size++;
            reread();
            return true;
        }

        private int empty() {
            int was = size;
            size = 0;
            reread();
            return was;
        }

        private void reread() {
            faultAt = NONE;
            open = 0;
            taken = 0;
            fill(lengths, 0);
            fill(sheds, NONE);
            for (int i = 0; i < size && faultAt == NONE; i++) {
                if (!goesOnWith(item(bytes, i))) {
                    faultAt = i;
                }
            }
            if (faultAt == NONE && size > 0 && taken == 0) {
                faultAt = size;
            }
            told = faultAt != NONE || size == 0 ? 0 : open + 1;
        }

        private boolean goesOnWith(int b) {
            if (b == ';' && taken != 0) {
                open++;
                taken = 0;
                return true;
            }
            int shed = b - '0';
            if (open >= MOST_NIGHTS || !isShed(shed) || (taken >> shed & 1) != 0) {
                return false;
            }
            taken |= 1 << shed;
            int length = item(lengths, open);
            keep(sheds, open * SHEDS + length, shed);
            keep(lengths, open, length + 1);
            return true;
        }

        private boolean isTold(int night) {
            return night >= 0 && night < told;
        }

        private int lengthOf(int night) {
            return night >= 0 && night < told && night < lengths.length ? lengths[night] : 0;
        }

        private int shedOf(int night, int i) {
            boolean stands = night >= 0 && night < told && i >= 0 && i < SHEDS;
            int place = stands ? night * SHEDS + i : NONE;
            return place >= 0 && place < sheds.length ? sheds[place] : NONE;
        }

        private boolean same(int a, int b) {
            for (int i = 0; i < SHEDS; i++) {
                if (shedOf(a, i) != shedOf(b, i)) {
                    return false;
                }
            }
            return true;
        }
    }

    /** Where the watch is in a NIGHT. */
    private static final class Watch {
        private final Harbour harbour;
        private final Nights nights;

        private Watch(Harbour harbour, Nights nights) {
            this.harbour = harbour;
            this.nights = nights;
        }

        private int shedIn(int night, int minute) {
            int comes = 0;
            for (int i = 0; i < nights.lengthOf(night); i++) {
                if (within(minute, comes, comes + harbour.look - 1)) {
                    return nights.shedOf(night, i);
                }
                comes += harbour.look + harbour.wayOf(nights.shedOf(night, i), nights.shedOf(night, i + 1));
            }
            return NONE;
        }

        private int comesTo(int night, int shed) {
            int comes = 0;
            for (int i = 0; i < nights.lengthOf(night); i++) {
                if (nights.shedOf(night, i) == shed) {
                    return comes < MINUTES ? comes : NONE;
                }
                comes += harbour.look + harbour.wayOf(nights.shedOf(night, i), nights.shedOf(night, i + 1));
            }
            return NONE;
        }

        private int aloneFor(int night, int shed) {
            int comes = comesTo(night, shed);
            return comes == NONE ? MINUTES : Math.max(comes, MINUTES - comes - harbour.look);
        }

        private int aloneFrom(int night, int shed) {
            int comes = comesTo(night, shed);
            return comes == NONE || comes >= MINUTES - comes - harbour.look ? 0 : comes + harbour.look;
        }
    }

    /** One number by another, in lowest terms; a class that answers with one uses its own again and again. */
    private static final class Fraction {
        // Euclid's way needs fewer turns than this for any two longs.
        private static final int MOST_TURNS = 200;

        private long above = 0;
        private long below = 1;

        private Fraction become(long a, long b) {
            long divisor = commonDivisor(a, b);
            above = divisor > 0 ? a / divisor : 0;
            below = divisor > 0 ? b / divisor : 1;
            return this;
        }

        private void multiply(long a, long b) {
            become(above * a, below * b);
        }

        private long part(int what) {
            return what == 0 ? above : below;
        }

        private static long commonDivisor(long a, long b) {
            long x = a;
            long y = b;
            for (int turn = 0; turn < MOST_TURNS && y != 0; turn++) {
                long rest = x % y;
                x = y;
                y = rest;
            }
            return x;
        }
    }

    /** THE BOOK of the roof: which STEPS were gone, and which rows have none of these. */
    private static final class Book {
        private static final int ALL_SHEDS = (1 << SHEDS) - 1;

        private final Nights nights;
        // From each SHED to each, and behind these from the porch.
        private final int[] steps = new int[(SHEDS + 1) * SHEDS];
        // How many NEW rows go on from a set of SHEDS that ends with one of them.
        private final int[] endings = new int[(ALL_SHEDS + 1) * SHEDS];
        private final Fraction fraction = new Fraction();

        private Book(Nights nights) {
            this.nights = nights;
        }

        private void tell(int k) {
            fill(steps, 0);
            for (int night = 0; night < k && night < MOST_NIGHTS; night++) {
                for (int i = 0; i < nights.lengthOf(night); i++) {
                    go(nights.shedOf(night, i - 1), nights.shedOf(night, i));
                }
            }
        }

        private void go(int a, int b) {
            keep(steps, (a == NONE ? SHEDS : a) * SHEDS + b, gone(a, b) + 1);
        }

        private int gone(int a, int b) {
            int step = (a == NONE ? SHEDS : a) * SHEDS + b;
            return step >= 0 && step < steps.length ? steps[step] : 0;
        }

        private int above(int a, int b) {
            return a == b ? 0 : gone(a, b) + 1;
        }

        private int below(int a) {
            int sum = a == NONE ? SHEDS : SHEDS - 1;
            for (int b = 0; b < SHEDS; b++) {
                sum += gone(a, b);
            }
            return sum;
        }

        private Fraction nextBehind(int k, int a, int b) {
            tell(k);
            return fraction.become(above(a, b), below(a));
        }

        private Fraction likelihood(int night) {
            tell(night);
            fraction.become(1, 1);
            for (int i = 0; i < nights.lengthOf(night); i++) {
                int from = nights.shedOf(night, i - 1);
                fraction.multiply(above(from, nights.shedOf(night, i)), below(from));
            }
            return fraction;
        }

        private int unlikeSteps() {
            tell(nights.told);
            int sum = 0;
            for (int i = 0; i < steps.length; i++) {
                sum += item(steps, i) > 0 ? 1 : 0;
            }
            return sum;
        }

        private int allSteps() {
            tell(nights.told);
            int sum = 0;
            for (int i = 0; i < steps.length; i++) {
                sum += item(steps, i);
            }
            return sum;
        }

        /** The i-th SHED of the least NEW row; findEndings() goes ahead of it. */
        private int leastNewRow(int i) {
            int set = 0;
            int last = NONE;
            for (int j = 0; j <= i && j < SHEDS; j++) {
                last = leastOn(set, last);
                if (last == NONE) {
                    return NONE;
                }
                set |= 1 << last;
            }
            return last;
        }

        // Greater sets come first: what a set needs stands in those with one SHED more.
        private void findEndings() {
            tell(nights.told);
            for (int set = ALL_SHEDS; set > 0; set--) {
                for (int last = 0; last < SHEDS; last++) {
                    keep(endings, set * SHEDS + last, endingsBehind(set, last));
                }
            }
        }

        /** How many NEW rows go on so; for all of them findEndings() goes ahead of it. */
        private int endingsBehind(int set, int last) {
            if (set == ALL_SHEDS) {
                return 1;
            }
            int sum = 0;
            for (int shed = 0; shed < SHEDS; shed++) {
                sum += endingsBy(set, last, shed);
            }
            return sum;
        }

        private int endingsBy(int set, int last, int shed) {
            boolean stands = (set >> shed & 1) != 0;
            return stands || gone(last, shed) > 0 ? 0 : item(endings, (set | 1 << shed) * SHEDS + shed);
        }

        private int leastOn(int set, int last) {
            for (int shed = 0; shed < SHEDS; shed++) {
                if (endingsBy(set, last, shed) > 0) {
                    return shed;
                }
            }
            return NONE;
        }
    }

    /** Thieves who break in, against one NIGHT or LOTS of two. */
    private static final class Thieves {
        private final Harbour harbour;
        private final Watch watch;
        private final Fraction fraction = new Fraction();
        // The latest BREAK that was sought.
        private int shed = 0;
        private int minute = 0;
        private int most = 0;
        // The most that one BREAK has in both NIGHTS, in the first alone, in the second alone.
        private int ofBoth = 0;
        private int ofFirst = 0;
        private int ofSecond = 0;
        // What came of learning.
        private int gone = 0;
        private int had = 0;

        private Thieves(Harbour harbour, Watch watch) {
            this.harbour = harbour;
            this.watch = watch;
        }

        /** What is stolen from a SHED to which the watch comes in a MINUTE (NONE: it never comes). */
        private int haul(int from, int start, int comes) {
            boolean free = comes == NONE || start + harbour.need <= comes || start >= comes + harbour.look;
            return free ? harbour.worthOf(from) : 0;
        }

        /** The best BREAK from a MINUTE on, with both NIGHTS by their weights; the SHED with the lamp is left. */
        private void seek(int a, int weightOfA, int b, int weightOfB, int earliest, int lamp) {
            most = -1;
            for (int s = 0; s < SHEDS; s++) {
                int aComes = watch.comesTo(a, s);
                int bComes = watch.comesTo(b, s);
                for (int m = earliest; s != lamp && m <= MINUTES - harbour.need; m++) {
                    take(s, m, weightOfA * haul(s, m, aComes) + weightOfB * haul(s, m, bComes));
                }
            }
        }

        private void take(int s, int m, int mean) {
            if (mean > most) {
                shed = s;
                minute = m;
                most = mean;
            }
        }

        private int part(int what) {
            return what == 0 ? shed : what == 1 ? minute : most;
        }

        // A mean by a lot q of a is the greatest of: ofBoth, q ofFirst, (1 - q) ofSecond.
        private void weigh(int a, int b) {
            ofBoth = 0;
            ofFirst = 0;
            ofSecond = 0;
            for (int s = 0; s < SHEDS; s++) {
                int aComes = watch.comesTo(a, s);
                int bComes = watch.comesTo(b, s);
                for (int m = 0; m <= MINUTES - harbour.need; m++) {
                    sort(haul(s, m, aComes), haul(s, m, bComes));
                }
            }
        }

        private void sort(int inFirst, int inSecond) {
            if (inFirst > 0 && inSecond > 0) {
                ofBoth = Math.max(ofBoth, inFirst);
            } else {
                ofFirst = Math.max(ofFirst, inFirst);
                ofSecond = Math.max(ofSecond, inSecond);
            }
        }

        // Where the falling and the rising mean meet they have ofFirst ofSecond by the sum of these.
        private boolean meetAboveBoth() {
            return ofFirst * ofSecond > ofBoth * (ofFirst + ofSecond);
        }

        private Fraction leastLot(int a, int b) {
            weigh(a, b);
            if (meetAboveBoth()) {
                return fraction.become(ofSecond, ofFirst + ofSecond);
            }
            return ofSecond > ofBoth ? fraction.become(ofSecond - ofBoth, ofSecond) : fraction.become(0, 1);
        }

        private Fraction leastMean(int a, int b) {
            weigh(a, b);
            if (meetAboveBoth()) {
                return fraction.become(ofFirst * ofSecond, ofFirst + ofSecond);
            }
            return fraction.become(ofBoth, 1);
        }

        /** Both sides learn: neither knows in a NIGHT what the other does in it. */
        private void learnBy(int a, int b, int n) {
            gone = 0;
            had = 0;
            int hadOfA = 0;
            int hadOfB = 0;
            for (int ahead = 0; ahead < n; ahead++) {
                seek(a, gone, b, ahead - gone, 0, NONE);
                int inA = haul(shed, minute, watch.comesTo(a, shed));
                int inB = haul(shed, minute, watch.comesTo(b, shed));
                boolean goesA = hadOfA <= hadOfB;
                gone += goesA ? 1 : 0;
                had += goesA ? inA : inB;
                hadOfA += inA;
                hadOfB += inB;
            }
        }
    }

    /** Whether the NIGHTS that are told may have come by lot. */
    private static final class Dice {
        private static final int SEEDS = 100;

        private final Nights nights;
        private final Fraction fraction = new Fraction();

        private Dice(Nights nights) {
            this.nights = nights;
        }

        private int alike(int night) {
            int sum = 0;
            for (int other = 0; other < nights.told; other++) {
                sum += nights.same(night, other) ? 1 : 0;
            }
            return sum;
        }

        private Fraction chance(int night, int p) {
            int so = alike(night);
            int others = nights.told - so;
            fraction.become(1, 1);
            for (int i = 1; i <= so; i++) {
                fraction.multiply((long) p * (others + i), (long) SIXTEENTHS * i);
            }
            for (int i = 0; i < others; i++) {
                fraction.multiply(SIXTEENTHS - p, SIXTEENTHS);
            }
            return fraction;
        }

        private int fittingSeeds() {
            int sum = 0;
            for (int seed = 0; seed < SEEDS; seed++) {
                sum += fits(seed) ? 1 : 0;
            }
            return sum;
        }

        private int leastSeed() {
            for (int seed = 0; seed < SEEDS; seed++) {
                if (fits(seed)) {
                    return seed;
                }
            }
            return NONE;
        }

        private boolean fits(int first) {
            int seed = first;
            for (int night = 0; night < nights.told; night++) {
                seed = 1103515245 * seed + 12345;
                int lot = (seed >>> 16) % 2;
                if (lot != (nights.same(0, night) ? 0 : 1)) {
                    return false;
                }
            }
            return true;
        }
    }

    /** SHEETS, and the latest FINDING about them. */
    private static final class Sheets {
        private static final int ALL = 4, MOST_ITEMS = 48, LOST = -1;

        private final int[] forms = new int[ALL];
        private final int[] sizes = new int[ALL];
        private final int[] items = new int[ALL * MOST_ITEMS];
        private final int[] moved = new int[MOST_ITEMS];
        private int latest = 0;

        private Sheets() {
            for (int s = 0; s < forms.length; s++) {
                forms[s] = LOST;
            }
        }

        private int found(int finding) {
            latest = finding;
            return -10 - finding;
        }

        private boolean isLost(int s) {
            return formOf(s) == LOST;
        }

        private int formOf(int s) {
            return item(forms, s);
        }

        private int sizeOf(int s) {
            return item(sizes, s);
        }

        private int itemOf(int s, int i) {
            return item(items, s * MOST_ITEMS + i);
        }

        private void change(int s, int i, int v) {
            keep(items, s * MOST_ITEMS + i, narrow(formOf(s), v));
        }

        private static int narrow(int form, int v) {
            return form == 0 ? (byte) v : form == 1 ? (short) v : v;
        }

        private void make(int s, int form, int n) {
            keep(forms, s, form);
            keep(sizes, s, n);
            for (int i = 0; i < n && i < MOST_ITEMS; i++) {
                change(s, i, 0);
            }
        }

        private int drop(int s) {
            keep(forms, s, LOST);
            return sizeOf(s);
        }

        /** The FINDING that keeps an item from being used as of a FORM; 0: none does. */
        private int hindrance(int s, int form, int i) {
            if (isLost(s)) {
                return NULL;
            }
            if (formOf(s) != form) {
                return CAST;
            }
            return within(i, 0, sizeOf(s) - 1) ? 0 : INDEX;
        }

        private boolean hasItems(int s, int i, int n) {
            return i >= 0 && n >= 0 && n <= sizeOf(s) && i <= sizeOf(s) - n;
        }

        private void move(int s, int i, int t, int j, int n) {
            for (int k = 0; k < n && k < MOST_ITEMS; k++) {
                keep(moved, k, itemOf(s, i + k));
            }
            for (int k = 0; k < n && k < MOST_ITEMS; k++) {
                change(t, j + k, item(moved, k));
            }
        }
    }
}
