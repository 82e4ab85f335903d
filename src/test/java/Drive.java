/** Whole writes and readings, for tests that do not look at their single steps. */
final class Drive {
    static final int SET = 0;
    static final int ADD = 1;
    static final int REPLACE = 2;
    static final int CAS = 3;
    static final int DELETE = 4;

    private Drive() {
    }

    /** Does a whole write and answers its outcome. */
    static int write(SteppedCache x, int kind, int key, int value, int life, int token) {
        Check.yes("write of kind " + kind + " for key " + key, x.write(kind, key, value, life, token));
        x.work(50);
        return x.outcome();
    }

    static void set(SteppedCache x, int key, int value) {
        Check.same("outcome of SET " + key, write(x, SET, key, value, 0, 0), 1);
    }

    static void setFor(SteppedCache x, int key, int value, int life) {
        Check.same("outcome of SET " + key, write(x, SET, key, value, life, 0), 1);
    }

    static void delete(SteppedCache x, int key) {
        Check.same("outcome of DELETE " + key, write(x, DELETE, key, 0, 0, 0), 5);
    }

    /** Does a whole reading (no write may be under way) and answers the state at its end. */
    static int read(SteppedCache x, int r, int key) {
        Check.yes("get of key " + key, x.get(r, key));
        int state = x.state(r);
        for (int n = 0; n < 6 && state < 7; n++) {
            state = x.step(r);
        }
        return state;
    }

    static void steps(SteppedCache x, int r, int... states) {
        for (int state : states) {
            Check.same("step(" + r + ")", x.step(r), state);
        }
    }
}
