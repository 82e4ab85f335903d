import java.util.ArrayList;
import java.util.List;
import java.util.function.Consumer;

/** Objects in the midst of all that the writer and the readers can be at, made anew each time. */
final class Situation {
    static final int ITEMS = 4;
    static final int WAYS = 1;

    /** Keys for one slot a bucket: to make room for NEW, CHAINED moves on to bucket 3, then BLOCKING to bucket 2. */
    static final int FAR = Keys.nth(0, 5, 6);
    static final int BLOCKING = Keys.nth(0, 0, 2, Keys.ANY, 1);
    static final int CHAINED = Keys.nth(0, 2, 3, Keys.ANY, 2);
    static final int TURNED = Keys.nth(0, 1, 0, Keys.ANY, 0);
    static final int NEW = Keys.nth(0, 0, 1, Keys.ANY, 3);
    static final int NEVER_SET = Keys.nth(1, 0, 2, Keys.ANY, 1);

    final String name;
    private final Consumer<SteppedCache> calls;

    private Situation(String name, Consumer<SteppedCache> calls) {
        this.name = name;
        this.calls = calls;
    }

    SteppedCache make() {
        SteppedCache x = new SteppedCache(ITEMS, WAYS);
        calls.accept(x);
        return x;
    }

    static List<Situation> all() {
        List<Situation> all = new ArrayList<>();
        all.add(new Situation("a new object", x -> { }));
        addWrites(all);
        addReadings(all);
        return all;
    }

    private static void fill(SteppedCache x) {
        Drive.setFor(x, FAR, 1, 4);
        Drive.set(x, BLOCKING, 2);
        Drive.set(x, CHAINED, 3);
        Drive.set(x, TURNED, 4);
    }

    private static void addWrites(List<Situation> all) {
        for (int steps = 0; steps <= 8; steps++) {
            int done = steps;
            all.add(new Situation("an INSERT with eviction and two moves, after " + done + " steps", x -> {
                fill(x);
                begin(x, Drive.SET, NEW, 0, done);
            }));
        }
        for (int steps = 0; steps <= 3; steps++) {
            int done = steps;
            all.add(new Situation("a CAS that changes, after " + done + " steps", x -> {
                fill(x);
                begin(x, Drive.CAS, BLOCKING, 2, done);
            }));
        }
        int[] kinds = {Drive.ADD, Drive.REPLACE, Drive.CAS, Drive.DELETE, Drive.DELETE};
        int[] keys = {FAR, NEW, FAR, FAR, NEW};
        for (int n = 0; n < kinds.length; n++) {
            int kind = kinds[n];
            int key = keys[n];
            for (int steps = 0; steps <= 1; steps++) {
                int done = steps;
                all.add(new Situation("kind " + kind + " of key " + key + " after " + done + " steps", x -> {
                    fill(x);
                    begin(x, kind, key, 77, done);
                }));
            }
        }
        all.add(new Situation("NO ROOM", x -> {
            Drive.set(x, Keys.nth(0, 0, 1), 1);
            Drive.set(x, Keys.nth(0, 1, 0), 1);
            begin(x, Drive.SET, Keys.nth(1, 0, 1), 0, 2);
        }));
    }

    private static void begin(SteppedCache x, int kind, int key, int token, int steps) {
        x.write(kind, key, 50, 9, token);
        if (steps > 0) {
            Check.same("steps of a situation", x.work(steps), steps);
        }
    }

    private static void addReadings(List<Situation> all) {
        for (int steps = 0; steps <= 4; steps++) {
            int done = steps;
            all.add(new Situation("readings after " + done + " steps", x -> {
                fill(x);
                x.get(0, BLOCKING);
                x.get(1, NEVER_SET);
                x.get(2, FAR);
                step(x, done);
            }));
            all.add(new Situation("a reading with two retries after " + done + " steps more", x -> {
                fill(x);
                retry(x, BLOCKING, 2);
                x.get(1, CHAINED);
                step(x, done);
            }));
        }
        all.add(new Situation("a reader that is LOCKED", x -> {
            fill(x);
            retry(x, BLOCKING, 3);
        }));
        all.add(new Situation("a reader that is LOCKED while a write is under way", x -> {
            fill(x);
            retry(x, BLOCKING, 3);
            begin(x, Drive.SET, BLOCKING, 0, 2);
        }));
        all.add(new Situation("a reader that waits for the version", x -> {
            fill(x);
            begin(x, Drive.SET, BLOCKING, 0, 2);
            x.get(1, BLOCKING);
            x.step(1);
        }));
        all.add(new Situation("a reading of what is expired", x -> {
            fill(x);
            x.pass(4);
            x.get(0, FAR);
            x.get(2, BLOCKING);
            step(x, 4);
        }));
    }

    private static void step(SteppedCache x, int steps) {
        for (int n = 0; n < 3 * steps; n++) {
            x.step(n % 3);
        }
    }

    private static void retry(SteppedCache x, int key, int retries) {
        x.get(0, key);
        for (int n = 0; n < retries; n++) {
            Drive.steps(x, 0, 2);
            Drive.set(x, key, 60 + n);
            Drive.steps(x, 0, 4, 5, n < 2 ? 1 : 6);
        }
    }
}
