import java.util.Random;

/** No call throws or fails to end, whatever its arguments and whatever was called before (the same every time). */
public final class AnyCallTest {
    private static final int[] KEYS = {0, 1, 2, 3, -1, Integer.MIN_VALUE, Integer.MAX_VALUE, 77, 1234567};

    private final Random random;
    private final SteppedCache cache;

    private AnyCallTest(int seed) {
        random = new Random(seed);
        cache = new SteppedCache(number(), number());
    }

    public static void main(String[] args) {
        for (int seed = 0; seed < 400; seed++) {
            new AnyCallTest(seed).run(512);
        }
        // what is answered after the 512th call is free, but it has to be answered
        new AnyCallTest(400).run(500_000);
        Check.yes("all calls ended", true);
        Check.end();
    }

    private void run(int calls) {
        for (int n = 0; n < calls; n++) {
            call(random.nextInt(24));
        }
    }

    /** Mostly a small number, as these are the ones that mean something. */
    private int number() {
        int kind = random.nextInt(12);
        if (kind == 0) {
            return random.nextInt();
        }
        if (kind == 1) {
            return KEYS[random.nextInt(KEYS.length)];
        }
        return kind < 4 ? random.nextInt(80) - 20 : random.nextInt(5);
    }

    private void call(int which) {
        switch (which) {
            case 0: case 1: case 2: cache.write(number(), number(), number(), number(), number()); break;
            case 3: case 4: case 5: cache.work(number()); break;
            case 6: case 7: cache.get(number(), number()); break;
            case 8: case 9: case 10: case 11: cache.step(number()); break;
            case 12: cache.pass(number()); break;
            case 13: cache.outcome(); break;
            case 14: cache.state(number()); break;
            case 15: cache.value(number()); break;
            case 16: cache.token(number()); break;
            case 17: cache.where(number()); break;
            case 18: cache.at(number()); break;
            case 19: cache.item(number(), number()); break;
            case 20: cache.used(number()); break;
            case 21: cache.version(number()); break;
            case 22: cache.hash(number()); break;
            default: cache.count(number()); break;
        }
    }
}
