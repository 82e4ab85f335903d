/** Promises 5 to 9: how a reading begins, goes on and ends. */
public final class ReadTest {
    private static final int[] NO_READERS = {-1, 3, Integer.MIN_VALUE, Integer.MAX_VALUE};

    public static void main(String[] args) {
        wrongGets();
        wrongReaders();
        hitInFirstBucket();
        hitInSecondBucket();
        miss();
        expiryAtCheck();
        copyIsOfTheMomentOfCopying();
        waitWhileVersionIsOdd();
        retryAfterChange();
        otherStripesDoNotMatter();
        missIsCheckedToo();
        thirdRetryLocks();
        lockedWaitsAndHits();
        lockedMisses();
        lockedCountsNearMisses();
        retriesBeginAnew();
        movedItemIsFoundOnce();
        valueAndTokenOnlyAtHit();
        readersAreApart();
        Check.end();
    }

    private static void wrongGets() {
        SteppedCache x = new SteppedCache(4, 2);
        for (int r : NO_READERS) {
            Check.no("get(" + r + ")", x.get(r, 1));
        }
        Drive.set(x, 1, 10);
        for (int r = 0; r < 3; r++) {
            Check.yes("get", x.get(r, 1));
            int[] states = {1, 2, 4, 5};
            for (int state : states) {
                Check.same("state", x.state(r), state);
                Check.no("get during a reading", x.get(r, 2));
                Check.same("state after a refused get", x.state(r), state);
                x.step(r);
            }
            Check.same("the first key was read", x.state(r), 7);
            Check.yes("get after HIT", x.get(r, 2));
            Drive.steps(x, r, 2, 3, 5, 8);
            Check.yes("get after MISS", x.get(r, 1));
        }
    }

    private static void wrongReaders() {
        SteppedCache x = new SteppedCache(4, 2);
        for (int r : NO_READERS) {
            Check.same("step(" + r + ")", x.step(r), -1);
            Check.same("state(" + r + ")", x.state(r), -1);
            Check.same("value(" + r + ")", x.value(r), 0);
            Check.same("token(" + r + ")", x.token(r), 0);
        }
        for (int r = 0; r < 3; r++) {
            Check.same("step without a reading", x.step(r), -1);
            Check.same("state without a reading", x.state(r), 0);
            Check.same("value without a reading", x.value(r), 0);
            Check.same("token without a reading", x.token(r), 0);
        }
    }

    private static void hitInFirstBucket() {
        SteppedCache x = new SteppedCache(4, 2);
        Drive.set(x, 1, -10);
        x.get(2, 1);
        Drive.steps(x, 2, 2, 4, 5);
        Check.same("bit before the end", x.item(0, 4), 0);
        Drive.steps(x, 2, 7, -1);
        Check.same("state stays", x.state(2), 7);
        Check.same("value", x.value(2), -10);
        Check.same("token", x.token(2), 1);
        Check.same("bit", x.item(0, 4), 1);
    }

    private static void hitInSecondBucket() {
        SteppedCache x = new SteppedCache(4, 1);
        Drive.set(x, Keys.nth(0, 3, 5), 10);
        Drive.set(x, Keys.nth(1, 3, 5), 20);
        x.get(0, Keys.nth(1, 3, 5));
        Drive.steps(x, 0, 2, 3, 4, 5, 7, -1);
        Check.same("value", x.value(0), 20);
        Check.same("token", x.token(0), 2);
        Check.same("bit of the other", x.item(0, 4), 0);
        Check.same("bit", x.item(1, 4), 1);
    }

    private static void miss() {
        SteppedCache x = new SteppedCache(4, 1);
        Drive.set(x, Keys.nth(0, 3, 5), 10);
        x.get(0, Keys.nth(1, 3, 5));
        Drive.steps(x, 0, 2, 3, 5, 8, -1);
        Check.same("state stays", x.state(0), 8);
        Check.same("value of a MISS", x.value(0), 0);
        Check.same("token of a MISS", x.token(0), 0);
    }

    private static void expiryAtCheck() {
        for (int passed = 4; passed <= 6; passed++) {
            SteppedCache x = new SteppedCache(4, 2);
            Drive.setFor(x, 1, 10, 5);
            x.get(0, 1);
            Drive.steps(x, 0, 2, 4, 5);
            x.pass(passed);
            Drive.steps(x, 0, passed < 5 ? 7 : 8);
            Check.same("value", x.value(0), passed < 5 ? 10 : 0);
            Check.same("token", x.token(0), passed < 5 ? 1 : 0);
            Check.same("bit", x.item(0, 4), passed < 5 ? 1 : 0);
            Check.yes("no reader removes", x.used(0));
        }
    }

    private static void copyIsOfTheMomentOfCopying() {
        SteppedCache x = new SteppedCache(4, 2);
        Drive.set(x, 1, 10);
        x.get(0, 1);
        Drive.steps(x, 0, 2, 4, 5);
        Drive.set(x, 1, 20);
        Drive.steps(x, 0, 1, 2, 4, 5, 7);
        Check.same("value", x.value(0), 20);
        Check.same("token", x.token(0), 2);
        Drive.set(x, 1, 30);
        Check.same("the copy stays", x.value(0), 20);
        Check.same("the copied token stays", x.token(0), 2);
    }

    private static void waitWhileVersionIsOdd() {
        SteppedCache x = new SteppedCache(4, 2);
        Drive.set(x, 1, 10);
        x.write(0, 1, 20, 0, 0);
        x.work(2);
        x.get(0, 1);
        Drive.steps(x, 0, 1, 1);
        Check.same("waits", x.count(4), 2);
        int otherStripe = Keys.nth(0, 4, 5, Keys.ANY, Keys.stripe(1) ^ 1);
        x.get(1, otherStripe);
        Drive.steps(x, 1, 2);
        x.work(1);
        Drive.steps(x, 0, 2, 4, 5, 7);
        Check.same("waits at the end", x.count(4), 2);
        Check.same("waiting is no retry", x.count(3), 0);
    }

    private static void retryAfterChange() {
        SteppedCache x = new SteppedCache(4, 2);
        Drive.set(x, 1, 10);
        x.get(0, 1);
        Drive.steps(x, 0, 2, 4, 5);
        x.write(0, 1, 20, 0, 0);
        x.work(1);
        Drive.steps(x, 0, 7);
        Check.same("nothing has changed yet", x.count(3), 0);
        x.get(0, 1);
        Drive.steps(x, 0, 2, 4, 5);
        x.work(1);
        Drive.steps(x, 0, 1);
        Check.same("retries", x.count(3), 1);
    }

    private static void otherStripesDoNotMatter() {
        SteppedCache x = new SteppedCache(4, 2);
        Drive.set(x, 1, 10);
        int other = Keys.nth(0, 0, 6, Keys.ANY, Keys.stripe(1) ^ 2);
        Drive.set(x, other, 10);
        x.get(0, 1);
        Drive.steps(x, 0, 2);
        Drive.set(x, other, 20);
        Drive.delete(x, other);
        Drive.steps(x, 0, 4, 5, 7);
        Check.same("retries", x.count(3), 0);
    }

    private static void missIsCheckedToo() {
        SteppedCache x = new SteppedCache(4, 2);
        int sameStripe = Keys.nth(0, 4, 5, Keys.ANY, Keys.stripe(1));
        Drive.set(x, sameStripe, 10);
        x.get(0, 1);
        Drive.steps(x, 0, 2, 3, 5);
        Drive.delete(x, sameStripe);
        Drive.set(x, 1, 30);
        Drive.steps(x, 0, 1, 2, 4, 5, 7);
        Check.same("retries", x.count(3), 1);
        x.get(1, 2);
        Drive.steps(x, 1, 2, 3, 5);
        Drive.set(x, 2, 20);
        Drive.steps(x, 1, 8);
    }

    /** Brings reader 0 to LOCKED by three changes under its reading of the key, which is set. */
    private static void lock(SteppedCache x, int key) {
        x.get(0, key);
        for (int retry = 1; retry <= 3; retry++) {
            Drive.steps(x, 0, 2);
            Drive.set(x, key, retry);
            Drive.steps(x, 0, 4, 5, retry < 3 ? 1 : 6);
        }
    }

    private static void thirdRetryLocks() {
        SteppedCache x = new SteppedCache(4, 2);
        Drive.set(x, 1, 10);
        lock(x, 1);
        Check.same("retries", x.count(3), 3);
        Check.same("state", x.state(0), 6);
        Check.no("get while LOCKED", x.get(0, 2));
        Check.same("value while LOCKED", x.value(0), 0);
        Check.same("token while LOCKED", x.token(0), 0);
        Drive.steps(x, 0, 7, -1);
        Check.same("value", x.value(0), 3);
        Check.same("token", x.token(0), 4);
        Check.same("bit", x.item(0, 4), 1);
        Check.same("waits", x.count(4), 0);
    }

    private static void lockedWaitsAndHits() {
        SteppedCache x = new SteppedCache(4, 1);
        int before = Keys.nth(0, 3, 5);
        int key = Keys.nth(1, 3, 5);
        Drive.set(x, before, 1);
        Drive.set(x, key, 10);
        x.get(0, key);
        for (int retry = 1; retry <= 3; retry++) {
            Drive.steps(x, 0, 2, 3);
            Drive.set(x, key, retry);
            Drive.steps(x, 0, 4, 5, retry < 3 ? 1 : 6);
        }
        x.write(2, 1000, 0, 0, 0);
        Drive.steps(x, 0, 6, 6);
        Check.same("waits for a write of any key", x.count(4), 2);
        x.work(1);
        Check.same("that write has ended", x.outcome(), 2);
        Drive.steps(x, 0, 7);
        Check.same("value from the second bucket", x.value(0), 3);
        Check.same("bit of the item before", x.item(0, 4), 0);
        Check.same("bit", x.item(1, 4), 1);
    }

    private static void lockedMisses() {
        SteppedCache x = new SteppedCache(4, 2);
        Drive.set(x, 1, 10);
        lock(x, 1);
        Drive.delete(x, 1);
        Drive.steps(x, 0, 8);
        Check.same("value", x.value(0), 0);
        for (int late = -1; late <= 1; late++) {
            SteppedCache y = new SteppedCache(4, 2);
            Drive.set(y, 1, 10);
            lock(y, 1);
            Drive.setFor(y, 1, 40, 5);
            y.pass(5 + late);
            Drive.steps(y, 0, late < 0 ? 7 : 8);
            Check.same("value at the time " + y.count(7), y.value(0), late < 0 ? 40 : 0);
            Check.same("bit at the time " + y.count(7), y.item(0, 4), late < 0 ? 1 : 0);
            Check.yes("no reader removes", y.used(0));
            Check.same("expired ones removed", y.count(6), 0);
        }
    }

    private static void lockedCountsNearMisses() {
        SteppedCache x = new SteppedCache(4, 2);
        int key = Keys.nth(1, 0, 1, 0, Keys.ANY);
        Drive.set(x, Keys.nth(0, 0, 1, 0, Keys.ANY), 1);
        Drive.set(x, key, 10);
        lock(x, key);
        int before = x.count(5);
        Drive.steps(x, 0, 7);
        Check.same("near misses of the step", x.count(5) - before, 1);
    }

    private static void retriesBeginAnew() {
        SteppedCache x = new SteppedCache(4, 2);
        Drive.set(x, 1, 10);
        lock(x, 1);
        Drive.steps(x, 0, 7);
        lock(x, 1);
        Check.same("retries", x.count(3), 6);
    }

    private static void movedItemIsFoundOnce() {
        SteppedCache x = new SteppedCache(12, 1);
        int moved = Keys.nth(0, 0, 2);
        Drive.set(x, moved, 10);
        Drive.set(x, Keys.nth(0, 1, 0), 20);
        x.get(0, moved);
        x.get(1, moved);
        Drive.steps(x, 0, 2);
        Drive.steps(x, 1, 2);
        x.write(0, Keys.nth(0, 0, 1), 30, 0, 0);
        x.work(3);
        Check.same("in both places", x.at(2), x.at(0));
        Drive.steps(x, 0, 4, 5, 1, 1);
        x.work(1);
        Drive.steps(x, 1, 3, 4, 5, 1);
        x.work(1);
        Drive.steps(x, 0, 2, 3, 4, 5, 7);
        Check.same("value of the moved one", x.value(0), 10);
        Check.same("retries", x.count(3), 2);
        Check.same("waits", x.count(4), 1);
    }

    private static void valueAndTokenOnlyAtHit() {
        SteppedCache x = new SteppedCache(4, 2);
        Drive.set(x, 1, 10);
        Check.same("reading", Drive.read(x, 0, 1), 7);
        x.get(0, 1);
        for (int n = 0; n < 4; n++) {
            Check.same("value in state " + x.state(0), x.value(0), 0);
            Check.same("token in state " + x.state(0), x.token(0), 0);
            x.step(0);
        }
        Check.same("value at HIT", x.value(0), 10);
        Check.same("token at HIT", x.token(0), 1);
    }

    private static void readersAreApart() {
        SteppedCache x = new SteppedCache(4, 2);
        for (int r = 0; r < 3; r++) {
            Drive.set(x, 10 + r, 100 + r);
        }
        for (int r = 0; r < 3; r++) {
            x.get(r, 10 + r);
        }
        int[][] steps = {{2, 2}, {0, 2}, {2, 4}, {1, 2}, {1, 4}, {2, 5}, {0, 4}, {2, 7}, {0, 5}, {0, 7}, {1, 5}, {1, 7}};
        for (int[] step : steps) {
            Drive.steps(x, step[0], step[1]);
        }
        for (int r = 0; r < 3; r++) {
            Check.same("value(" + r + ")", x.value(r), 100 + r);
            Check.same("token(" + r + ")", x.token(r), 1 + r);
        }
    }
}
