import java.util.stream.LongStream;

/** All that an object tells of itself, but for the latest FINDING. It is changed by being asked so. */
final class State {
    private final LongStream.Builder told = LongStream.builder();
    private final UnguessedRound x;

    private State(UnguessedRound x) {
        this.x = x;
    }

    /** At most some 300 calls, so that an object can have had 200 ahead of it. */
    static long[] of(UnguessedRound x) {
        State state = new State(x);
        for (int what = 0; what < 8; what++) {
            state.told.add(x.count(what));
        }
        state.told.add(x.fault()).add(x.digest());
        state.nights();
        state.harbour();
        for (int s = 0; s < 4; s++) {
            state.sheet(s);
        }
        state.told.add(x.wipe());
        return state.told.build().toArray();
    }

    private void nights() {
        int all = x.count(0);
        for (int night = 0; night < all; night++) {
            for (int i = 0; i < 6; i++) {
                told.add(x.night(night, i));
            }
        }
    }

    private void harbour() {
        for (int a = 0; a < 6; a++) {
            told.add(x.worth(a, 1));
            for (int b = 0; b < a; b++) {
                told.add(x.way(a, b, 1));
            }
        }
    }

    /** Of the one FORM that a SHEET has, -1 is no item; of the others it has another FORM. */
    private void sheet(int s) {
        for (int form = 0; form < 3; form++) {
            x.put(s, form, -1, 0);
            int finding = x.count(8);
            told.add(finding);
            if (finding == 2) {
                items(s, form);
            }
        }
        told.add(x.lose(s));
    }

    /** No test puts the least int where this looks, so that it tells the end of a row. */
    private void items(int s, int form) {
        int v = 0;
        for (int i = 0; i <= 48 && v != Integer.MIN_VALUE; i++) {
            v = x.get(s, form, i);
            told.add(v);
        }
    }
}
