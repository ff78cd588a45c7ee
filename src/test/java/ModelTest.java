/** Long runs of calls, by a fixed row of numbers, each answer held against the Model's. */
public final class ModelTest {
    private static final Due D = new Due();
    private static final int RUNS = 400, CALLS = 500;
    private static final int[] FAR = {Integer.MIN_VALUE, Integer.MIN_VALUE + 1, -65536, -7, -2, 6, 61, 100, 65536,
        Integer.MAX_VALUE - 1, Integer.MAX_VALUE};

    private final UnguessedRound x = new UnguessedRound();
    private final Model m = new Model();
    private final int run;
    private long state;

    private ModelTest(int run) {
        this.run = run;
        state = 1000003L * run + 17;
    }

    public static void main(String[] args) {
        for (int run = 0; run < RUNS; run++) {
            new ModelTest(run).go();
        }
        D.end();
    }

    private int below(int bound) {
        state = state * 6364136223846793005L + 1442695040888963407L;
        return (int) ((state >>> 33) % bound);
    }

    /** Mostly a number from low to high, now and then one beside these or far away. */
    private int number(int low, int high) {
        int dice = below(60);
        if (dice == 0) {
            return low - 1;
        }
        if (dice == 1) {
            return high + 1;
        }
        return dice == 2 ? FAR[below(FAR.length)] : low + below(high - low + 1);
    }

    private void go() {
        int calls = tell();
        while (calls < CALLS) {
            int kind = below(40);
            // No branch below makes more than two calls.
            calls += 2;
            if (kind == 0) {
                calls += calls < CALLS - 70 ? tell() : 0;
            } else if (kind < 12) {
                change(kind);
            } else if (kind < 28) {
                ask(kind);
            } else {
                sheets(kind);
            }
        }
    }

    private void same(String call, long got, long want) {
        D.due("run " + run + ": " + call, got, want);
    }

    /** Wipes and types a text, mostly one that is well: how many calls. */
    private int tell() {
        StringBuilder text = new StringBuilder();
        int nights = 1 + below(8);
        for (int night = 0; night < nights; night++) {
            StringBuilder sheds = new StringBuilder("012345");
            int length = 1 + below(6);
            text.append(night == 0 ? "" : ";");
            if (night > 0 && below(4) == 0) {
                text.append(text.substring(0, Math.max(1, text.indexOf(";"))));
                continue;
            }
            for (int i = 0; i < length; i++) {
                int at = below(sheds.length());
                text.append(sheds.charAt(at));
                sheds.deleteCharAt(at);
            }
        }
        if (below(12) == 0) {
            text.append(";0;1;0;7".charAt(below(8)));
        }
        same("wipe", x.wipe(), m.wipe());
        for (int i = 0; i < text.length(); i++) {
            same("type " + text.charAt(i), x.type(text.charAt(i)), m.type(text.charAt(i)));
        }
        same("fault of " + text, x.fault(), m.fault());
        return text.length() + 2;
    }

    private void change(int kind) {
        int a = number(0, 5);
        int b = number(0, 5);
        switch (kind) {
            case 1: case 2: case 3: {
                int v = below(2) == 0 ? number(7, 9) : number(1, 9);
                same("way " + a + ", " + b + ", " + v, x.way(a, b, v), m.way(a, b, v));
                break;
            }
            case 4: case 5: {
                int v = below(3) == 0 ? number(0, 3) : number(0, 99);
                same("worth " + a + ", " + v, x.worth(a, v), m.worth(a, v));
                break;
            }
            case 6: case 7: {
                int v = below(2) == 0 ? number(18, 20) : number(1, 20);
                same("set 1, " + v, x.set(1, v), m.set(1, v));
                break;
            }
            case 8: {
                int v = below(2) == 0 ? number(4, 5) : number(1, 5);
                int what = below(9) == 0 ? number(0, 1) : 0;
                same("set " + what + ", " + v, x.set(what, v), m.set(what, v));
                break;
            }
            case 9: {
                int v = below(5) == 0 ? number(0, 255) : "012345;".charAt(below(7));
                same("type " + v, x.type(v), m.type(v));
                break;
            }
            case 10:
                same("fault", x.fault(), m.fault());
                break;
            default: {
                int what = number(0, 8);
                same("count " + what, x.count(what), m.count(what));
            }
        }
    }

    private int night() {
        return number(0, Math.max(0, m.count(0) - 1));
    }

    private void ask(int kind) {
        int a = night();
        int b = night();
        int shed = number(0, 5);
        int p = number(0, 16);
        switch (kind) {
            case 12: same("night " + a + ", " + shed, x.night(a, shed), m.night(a, shed)); break;
            case 13: askMinute(a, number(0, 59)); break;
            case 14: same("when " + a + ", " + shed, x.when(a, shed), m.when(a, shed)); break;
            case 15: askAlone(a, shed, number(0, 1)); break;
            case 16: askSteals(a, shed, number(0, 60 - Math.max(1, m.count(3)))); break;
            case 17: case 18: askNext(number(0, m.count(0)), number(-1, 5), shed, number(0, 1)); break;
            case 19: askLikely(a, number(0, 1)); break;
            case 20: askFresh(shed); break;
            case 21: askBreaks(a, b, p, number(0, 2)); break;
            case 22: askSeen(a, b, p, shed, number(0, 2)); break;
            case 23: case 24: askLeast(a, b, number(0, 3)); break;
            case 25: askLamp(a, b, p, shed); break;
            case 26: askLearn(a, b, number(1, 99), number(0, 1)); break;
            default: askDice(a, p, number(-1, 1));
        }
    }

    private void askMinute(int night, int minute) {
        same("at " + night + ", " + minute, x.at(night, minute), m.at(night, minute));
    }

    private void askAlone(int night, int shed, int what) {
        same("alone " + night + ", " + shed + ", " + what, x.alone(night, shed, what), m.alone(night, shed, what));
    }

    private void askSteals(int night, int shed, int minute) {
        String call = "steals " + night + ", " + shed + ", " + minute;
        same(call, x.steals(night, shed, minute), m.steals(night, shed, minute));
    }

    private void askNext(int k, int a, int b, int what) {
        same("next " + k + ", " + a + ", " + b + ", " + what, x.next(k, a, b, what), m.next(k, a, b, what));
    }

    private void askLikely(int night, int what) {
        same("likely " + night + ", " + what, x.likely(night, what), m.likely(night, what));
    }

    private void askBreaks(int a, int b, int p, int what) {
        same("breaks " + a + ", " + b + ", " + p + ", " + what, x.breaks(a, b, p, what), m.breaks(a, b, p, what));
    }

    private void askSeen(int a, int b, int p, int other, int what) {
        int first = m.night(a, 0);
        int shed = below(2) == 0 ? first : other;
        String call = "seen " + a + ", " + b + ", " + p + ", " + shed + ", " + what;
        same(call, x.seen(a, b, p, shed, what), m.seen(a, b, p, shed, what));
    }

    private void askFresh(int i) {
        same("fresh " + i, x.fresh(i), m.fresh(i));
        same("fresh", x.fresh(-1), m.fresh(-1));
    }

    private void askLamp(int a, int b, int p, int shed) {
        same("lamp " + a + ", " + b + ", " + p + ", " + shed, x.lamp(a, b, p, shed), m.lamp(a, b, p, shed));
    }

    private void askLeast(int a, int b, int what) {
        same("least " + a + ", " + b + ", " + what, x.least(a, b, what), m.least(a, b, what));
    }

    private void askLearn(int a, int b, int n, int what) {
        same("learn " + a + ", " + b + ", " + n + ", " + what, x.learn(a, b, n, what), m.learn(a, b, n, what));
    }

    private void askDice(int night, int p, int what) {
        same("dice " + night + ", " + p + ", " + what, x.dice(night, p, what), m.dice(night, p, what));
        int seeds = number(0, 1);
        same("seeds " + seeds, x.seeds(seeds), m.seeds(seeds));
    }

    private void sheets(int kind) {
        int s = number(0, 3);
        int t = number(0, 3);
        int form = below(2) == 0 ? 2 : number(0, 2);
        int i = number(0, 9);
        int j = number(0, 9);
        int n = below(6) == 0 ? number(0, 48) : number(0, 9);
        int v = below(2) == 0 ? number(0, 99) : number(-70000, 70000);
        switch (kind) {
            case 28: case 29: {
                same("sheet " + s + ", " + form + ", " + n, x.sheet(s, form, n), m.sheet(s, form, n));
                break;
            }
            case 30: same("lose " + s, x.lose(s), m.lose(s)); break;
            case 31: case 32: case 33: {
                same("put " + s + ", " + form + ", " + i + ", " + v, x.put(s, form, i, v), m.put(s, form, i, v));
                break;
            }
            case 34: case 35: same("get " + s + ", " + form + ", " + i, x.get(s, form, i), m.get(s, form, i)); break;
            case 36: case 37: {
                String call = "copy " + s + ", " + i + ", " + t + ", " + j + ", " + n;
                same(call, x.copy(s, i, t, j, n), m.copy(s, i, t, j, n));
                break;
            }
            case 38: {
                int night = night();
                same("write " + night + ", " + s, x.write(night, s), m.write(night, s));
                break;
            }
            default: same("read " + s, x.read(s), m.read(s));
        }
        same("finding", x.count(8), m.count(8));
    }
}
