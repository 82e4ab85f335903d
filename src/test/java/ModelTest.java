import java.util.Random;

/** Random runs of calls, the same every time, on the program and on the plain model. */
public final class ModelTest {
    private static final int RUNS = 20_000;
    /** So many that those of lookAtAll come within the 512 for which the document promises anything. */
    private static final int CALLS_BEFORE_LOOK = 240;
    private static final int MOST_CALLS = 512;

    private static final int[] outcomes = new int[8];
    private static final int[] pathLengths = new int[5];
    private static final int[] counts = new int[10];
    /** How often a step led from a state (tens) to a state (ones). */
    private static final int[] ways = new int[100];

    private final Random random;
    private final int[] keys;
    private final int longestLife;
    /** Whether the run is mostly whole SETs: only nearly full tables have long paths. */
    private final boolean filling;
    private final SteppedCache cache;
    private final PlainModel model;

    private ModelTest(int seed) {
        random = new Random(seed);
        filling = random.nextInt(4) == 0;
        int items = random.nextInt(10) == 0 ? random.nextInt(40) - 4 : 1 + random.nextInt(32);
        int slots = random.nextInt(10) == 0 ? random.nextInt(8) - 1 : 1 + random.nextInt(filling ? 2 : 4);
        keys = chooseKeys();
        longestLife = random.nextBoolean() ? 20 : 1000;
        cache = new SteppedCache(items, slots);
        model = new PlainModel(items, slots);
    }

    public static void main(String[] args) {
        for (int seed = 0; seed < RUNS && !Check.anyWrong(); seed++) {
            new ModelTest(seed).run(seed);
        }
        checkThatAllWasMet();
        Check.end();
    }

    /** Few keys for many changes under one reading, many for full tables, few buckets for long paths. */
    private int[] chooseKeys() {
        int[] chosen = new int[filling ? 100 : 1 + random.nextInt(random.nextBoolean() ? 6 : 50)];
        int buckets = random.nextInt(3) == 0 ? 1 + random.nextInt(8) : 8;
        int range = random.nextBoolean() ? 1000 : Integer.MAX_VALUE;
        for (int n = 0; n < chosen.length; n++) {
            do {
                chosen[n] = random.nextInt(range) * (random.nextInt(4) == 0 ? -1 : 1);
            } while (Keys.first(chosen[n]) >= buckets);
        }
        return chosen;
    }

    private void run(int seed) {
        if (seed % 4 == 3) {
            goTheWholeWay(seed);
        } else {
            goAndLookAtAll(seed);
        }
        note();
    }

    private void goTheWholeWay(int seed) {
        for (int n = 0; n < MOST_CALLS && !Check.anyWrong(); n++) {
            String when = "run " + seed + ", call " + n + ": ";
            if (n % 4 == 3) {
                look(when);
            } else {
                call(when);
            }
        }
    }

    private void goAndLookAtAll(int seed) {
        for (int n = 0; n < CALLS_BEFORE_LOOK && !Check.anyWrong(); n++) {
            call("run " + seed + ", call " + n + ": ");
        }
        if (!Check.anyWrong()) {
            lookAtAll("run " + seed + ", at the end: ");
        }
    }

    private int key() {
        return random.nextInt(40) == 0 ? random.nextInt() : keys[random.nextInt(keys.length)];
    }

    /** Mostly a number of the range, now and then one at its edge or beyond it. */
    private int number(int least, int most) {
        switch (random.nextInt(60)) {
            case 0: return least - 1;
            case 1: return most + 1;
            case 2: return random.nextInt();
            case 3: return most;
            default: return least + random.nextInt(most - least + 1);
        }
    }

    private void call(String when) {
        int what = random.nextInt(filling ? 48 : 100);
        if (what < 22) {
            write(when);
        } else if (what < 45) {
            int n = filling ? 20 : random.nextInt(4) == 0 ? number(1, 50) : number(1, 3);
            Check.same(when + "work(" + n + ")", cache.work(n), model.work(n));
            outcomes[model.outcome() + 1]++;
        } else if (what < 55) {
            int r = number(0, 2);
            int key = key();
            Check.same(when + "get(" + r + ", " + key + ")", one(cache.get(r, key)), one(model.get(r, key)));
        } else if (what < 88) {
            step(when);
        } else if (what < 91) {
            int n = random.nextInt(4) == 0 ? number(1, 1000) : number(1, 10);
            Check.same(when + "pass(" + n + ")", one(cache.pass(n)), one(model.pass(n)));
        } else {
            look(when);
        }
    }

    private void write(String when) {
        int kind = filling || random.nextInt(3) == 0 ? 0 : number(0, 4);
        int key = key();
        int value = random.nextInt();
        int life = random.nextBoolean() ? 0 : number(0, longestLife);
        int place = model.where(key);
        int token = place < 0 || random.nextInt(4) == 0 ? random.nextInt(50) : model.item(model.at(place), 2);
        Check.same(when + "write(" + kind + ", " + key + ", " + value + ", " + life + ", " + token + ")",
                one(cache.write(kind, key, value, life, token)), one(model.write(kind, key, value, life, token)));
    }

    private void step(String when) {
        int r = number(0, 2);
        int before = model.state(r);
        int after = model.step(r);
        if (after > 0) {
            ways[10 * before + after]++;
        }
        Check.same(when + "step(" + r + ")", cache.step(r), after);
    }

    private void look(String when) {
        int key = key();
        int r = number(0, 2);
        int n = number(0, 31);
        int which = number(0, 9);
        switch (random.nextInt(11)) {
            case 0: Check.same(when + "where(" + key + ")", cache.where(key), model.where(key)); break;
            case 1: Check.same(when + "at(" + n + ")", cache.at(n), model.at(n)); break;
            case 2: Check.same(when + "item(" + n + ", " + which + ")", cache.item(n, which), model.item(n, which)); break;
            case 3: Check.same(when + "count(" + which + ")", cache.count(which), model.count(which)); break;
            case 4: Check.same(when + "version(" + which + ")", cache.version(which), model.version(which)); break;
            case 5: Check.same(when + "used(" + n + ")", one(cache.used(n)), one(model.used(n))); break;
            case 6: Check.same(when + "hash(" + key + ")", cache.hash(key), model.hash(key)); break;
            case 7: Check.same(when + "state(" + r + ")", cache.state(r), model.state(r)); break;
            case 8: Check.same(when + "value(" + r + ")", cache.value(r), model.value(r)); break;
            case 9: Check.same(when + "token(" + r + ")", cache.token(r), model.token(r)); break;
            default: Check.same(when + "outcome()", cache.outcome(), model.outcome()); break;
        }
    }

    private void lookAtAll(String when) {
        for (int p = 0; p < 32; p++) {
            Check.same(when + "at(" + p + ")", cache.at(p), model.at(p));
        }
        for (int i = 0; i < 32; i++) {
            Check.same(when + "used(" + i + ")", one(cache.used(i)), one(model.used(i)));
            for (int which = 0; which < 5; which++) {
                Check.same(when + "item(" + i + ", " + which + ")", cache.item(i, which), model.item(i, which));
            }
        }
        for (int which = 0; which < 10; which++) {
            Check.same(when + "count(" + which + ")", cache.count(which), model.count(which));
        }
        for (int stripe = 0; stripe < 4; stripe++) {
            Check.same(when + "version(" + stripe + ")", cache.version(stripe), model.version(stripe));
        }
        for (int r = 0; r < 3; r++) {
            Check.same(when + "state(" + r + ")", cache.state(r), model.state(r));
            Check.same(when + "value(" + r + ")", cache.value(r), model.value(r));
            Check.same(when + "token(" + r + ")", cache.token(r), model.token(r));
        }
        for (int n = 0; n < 8; n++) {
            int key = key();
            Check.same(when + "where(" + key + ")", cache.where(key), model.where(key));
            Check.same(when + "hash(" + key + ")", cache.hash(key), model.hash(key));
        }
        Check.same(when + "outcome()", cache.outcome(), model.outcome());
    }

    private void note() {
        for (int which = 0; which < 10; which++) {
            counts[which] += model.count(which) > 0 ? 1 : 0;
        }
        for (int d = 0; d < 5; d++) {
            pathLengths[d] += model.pathLengths[d];
        }
    }

    /** Runs in which something never happens would say nothing about it. */
    private static void checkThatAllWasMet() {
        for (int n = 0; n < 8; n++) {
            Check.yes("outcome " + (n - 1) + " was met", outcomes[n] > 100);
        }
        for (int d = 0; d < 5; d++) {
            Check.yes("a path of length " + d + " was met", pathLengths[d] > 100);
        }
        for (int which = 0; which < 10; which++) {
            Check.yes("count " + which + " was met", counts[which] > 100);
        }
        int[] steps = {11, 12, 23, 24, 34, 35, 45, 51, 56, 57, 58, 66, 67, 68};
        for (int step : steps) {
            Check.yes("a step from state " + step / 10 + " to " + step % 10 + " was met", ways[step] > 100);
        }
        System.out.println("paths " + java.util.Arrays.toString(pathLengths)
                + ", outcomes " + java.util.Arrays.toString(outcomes));
    }

    private static int one(boolean answer) {
        return answer ? 1 : 0;
    }
}
