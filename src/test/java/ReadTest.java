/** Promises 5 to 9: how a reading begins, goes on and ends. */
public final class ReadTest {
    private static final int[] NO_READERS = {-1, 3, Integer.MIN_VALUE, Integer.MAX_VALUE};
    private static final int A = Keys.nth(0, 0, 2, Keys.ANY, 1);
    private static final int B = Keys.nth(0, 2, 3, Keys.ANY, 2);
    private static final int C = Keys.nth(0, 1, 0, Keys.ANY, 0);
    private static final int ROOM_NEEDED = Keys.nth(0, 0, 1, Keys.ANY, 3);

    public static void main(String[] args) {
        wrongGets();
        wrongReaders();
        hitInFirstBucket();
        hitInSecondBucket();
        miss();
        expiryAtCheck();
        copyIsOfTheMomentOfCopying();
        waitWhileVersionIsOdd();
        retryAfterChange();
        otherStripesDoNotMatter();
        missIsCheckedToo();
        thirdRetryLocks();
        lockedWaitsAndHits();
        lockedMisses();
        lockedCountsNearMisses();
        retriesBeginAnew();
        movedItemIsFoundOnce();
        valueAndTokenOnlyAtHit();
        readersAreApart();
        onlyTheVersionAtTheFirstStepIsKept();
        waitsAtEachStepOfMoves();
        retriesAtEachStepOfMoves();
        retryByEachWayOfRemoval();
        copyOfAnItemThatHasGone();
        insertUnderAReading();
        otherKeysOfTheStripeMatter();
        thirdRetryWithoutAnItem();
        retriesAreOfOneReading();
        waitsAreNoRetries();
        lockedWaitsForEachStep();
        lockedMakesNoCheck();
        lockedNearMissesInBothBuckets();
        expiryTimes();
        bitStaysOnAfterAMiss();
        getBeginsAnewAfterTheEnd();
        Check.end();
    }

    private static void wrongGets() {
        SteppedCache x = new SteppedCache(4, 2);
        for (int r : NO_READERS) {
            Check.no("get(" + r + ")", x.get(r, 1));
        }
        Drive.set(x, 1, 10);
        for (int r = 0; r < 3; r++) {
            Check.yes("get", x.get(r, 1));
            int[] states = {1, 2, 4, 5};
            for (int state : states) {
                Check.same("state", x.state(r), state);
                Check.no("get during a reading", x.get(r, 2));
                Check.same("state after a refused get", x.state(r), state);
                x.step(r);
            }
            Check.same("the first key was read", x.state(r), 7);
            Check.yes("get after HIT", x.get(r, 2));
            Drive.steps(x, r, 2, 3, 5, 8);
            Check.yes("get after MISS", x.get(r, 1));
        }
    }

    private static void wrongReaders() {
        SteppedCache x = new SteppedCache(4, 2);
        for (int r : NO_READERS) {
            Check.same("step(" + r + ")", x.step(r), -1);
            Check.same("state(" + r + ")", x.state(r), -1);
            Check.same("value(" + r + ")", x.value(r), 0);
            Check.same("token(" + r + ")", x.token(r), 0);
        }
        for (int r = 0; r < 3; r++) {
            Check.same("step without a reading", x.step(r), -1);
            Check.same("state without a reading", x.state(r), 0);
            Check.same("value without a reading", x.value(r), 0);
            Check.same("token without a reading", x.token(r), 0);
        }
    }

    private static void hitInFirstBucket() {
        SteppedCache x = new SteppedCache(4, 2);
        Drive.set(x, 1, -10);
        x.get(2, 1);
        Drive.steps(x, 2, 2, 4, 5);
        Check.same("bit before the end", x.item(0, 4), 0);
        Drive.steps(x, 2, 7, -1);
        Check.same("state stays", x.state(2), 7);
        Check.same("value", x.value(2), -10);
        Check.same("token", x.token(2), 1);
        Check.same("bit", x.item(0, 4), 1);
    }

    private static void hitInSecondBucket() {
        SteppedCache x = new SteppedCache(4, 1);
        Drive.set(x, Keys.nth(0, 3, 5), 10);
        Drive.set(x, Keys.nth(1, 3, 5), 20);
        x.get(0, Keys.nth(1, 3, 5));
        Drive.steps(x, 0, 2, 3, 4, 5, 7, -1);
        Check.same("value", x.value(0), 20);
        Check.same("token", x.token(0), 2);
        Check.same("bit of the other", x.item(0, 4), 0);
        Check.same("bit", x.item(1, 4), 1);
    }

    private static void miss() {
        SteppedCache x = new SteppedCache(4, 1);
        Drive.set(x, Keys.nth(0, 3, 5), 10);
        x.get(0, Keys.nth(1, 3, 5));
        Drive.steps(x, 0, 2, 3, 5, 8, -1);
        Check.same("state stays", x.state(0), 8);
        Check.same("value of a MISS", x.value(0), 0);
        Check.same("token of a MISS", x.token(0), 0);
    }

    private static void expiryAtCheck() {
        for (int passed = 4; passed <= 6; passed++) {
            SteppedCache x = new SteppedCache(4, 2);
            Drive.setFor(x, 1, 10, 5);
            x.get(0, 1);
            Drive.steps(x, 0, 2, 4, 5);
            x.pass(passed);
            Drive.steps(x, 0, passed < 5 ? 7 : 8);
            Check.same("value", x.value(0), passed < 5 ? 10 : 0);
            Check.same("token", x.token(0), passed < 5 ? 1 : 0);
            Check.same("bit", x.item(0, 4), passed < 5 ? 1 : 0);
            Check.yes("no reader removes", x.used(0));
        }
    }

    private static void copyIsOfTheMomentOfCopying() {
        SteppedCache x = new SteppedCache(4, 2);
        Drive.set(x, 1, 10);
        x.get(0, 1);
        Drive.steps(x, 0, 2, 4, 5);
        Drive.set(x, 1, 20);
        Drive.steps(x, 0, 1, 2, 4, 5, 7);
        Check.same("value", x.value(0), 20);
        Check.same("token", x.token(0), 2);
        Drive.set(x, 1, 30);
        Check.same("the copy stays", x.value(0), 20);
        Check.same("the copied token stays", x.token(0), 2);
    }

    private static void waitWhileVersionIsOdd() {
        SteppedCache x = new SteppedCache(4, 2);
        Drive.set(x, 1, 10);
        x.write(0, 1, 20, 0, 0);
        x.work(2);
        x.get(0, 1);
        Drive.steps(x, 0, 1, 1);
        Check.same("waits", x.count(4), 2);
        int otherStripe = Keys.nth(0, 4, 5, Keys.ANY, Keys.stripe(1) ^ 1);
        x.get(1, otherStripe);
        Drive.steps(x, 1, 2);
        x.work(1);
        Drive.steps(x, 0, 2, 4, 5, 7);
        Check.same("waits at the end", x.count(4), 2);
        Check.same("waiting is no retry", x.count(3), 0);
    }

    private static void retryAfterChange() {
        SteppedCache x = new SteppedCache(4, 2);
        Drive.set(x, 1, 10);
        x.get(0, 1);
        Drive.steps(x, 0, 2, 4, 5);
        x.write(0, 1, 20, 0, 0);
        x.work(1);
        Drive.steps(x, 0, 7);
        Check.same("nothing has changed yet", x.count(3), 0);
        x.get(0, 1);
        Drive.steps(x, 0, 2, 4, 5);
        x.work(1);
        Drive.steps(x, 0, 1);
        Check.same("retries", x.count(3), 1);
    }

    private static void otherStripesDoNotMatter() {
        SteppedCache x = new SteppedCache(4, 2);
        Drive.set(x, 1, 10);
        int other = Keys.nth(0, 0, 6, Keys.ANY, Keys.stripe(1) ^ 2);
        Drive.set(x, other, 10);
        x.get(0, 1);
        Drive.steps(x, 0, 2);
        Drive.set(x, other, 20);
        Drive.delete(x, other);
        Drive.steps(x, 0, 4, 5, 7);
        Check.same("retries", x.count(3), 0);
    }

    private static void missIsCheckedToo() {
        SteppedCache x = new SteppedCache(4, 2);
        int sameStripe = Keys.nth(0, 4, 5, Keys.ANY, Keys.stripe(1));
        Drive.set(x, sameStripe, 10);
        x.get(0, 1);
        Drive.steps(x, 0, 2, 3, 5);
        Drive.delete(x, sameStripe);
        Drive.set(x, 1, 30);
        Drive.steps(x, 0, 1, 2, 4, 5, 7);
        Check.same("retries", x.count(3), 1);
        x.get(1, 2);
        Drive.steps(x, 1, 2, 3, 5);
        Drive.set(x, 2, 20);
        Drive.steps(x, 1, 8);
    }

    /** Brings reader 0 to LOCKED by three changes under its reading of the key, which is set. */
    private static void lock(SteppedCache x, int key) {
        x.get(0, key);
        for (int retry = 1; retry <= 3; retry++) {
            Drive.steps(x, 0, 2);
            Drive.set(x, key, retry);
            Drive.steps(x, 0, 4, 5, retry < 3 ? 1 : 6);
        }
    }

    private static void thirdRetryLocks() {
        SteppedCache x = new SteppedCache(4, 2);
        Drive.set(x, 1, 10);
        lock(x, 1);
        Check.same("retries", x.count(3), 3);
        Check.same("state", x.state(0), 6);
        Check.no("get while LOCKED", x.get(0, 2));
        Check.same("value while LOCKED", x.value(0), 0);
        Check.same("token while LOCKED", x.token(0), 0);
        Drive.steps(x, 0, 7, -1);
        Check.same("value", x.value(0), 3);
        Check.same("token", x.token(0), 4);
        Check.same("bit", x.item(0, 4), 1);
        Check.same("waits", x.count(4), 0);
    }

    private static void lockedWaitsAndHits() {
        SteppedCache x = new SteppedCache(4, 1);
        int before = Keys.nth(0, 3, 5);
        int key = Keys.nth(1, 3, 5);
        Drive.set(x, before, 1);
        Drive.set(x, key, 10);
        x.get(0, key);
        for (int retry = 1; retry <= 3; retry++) {
            Drive.steps(x, 0, 2, 3);
            Drive.set(x, key, retry);
            Drive.steps(x, 0, 4, 5, retry < 3 ? 1 : 6);
        }
        x.write(2, 1000, 0, 0, 0);
        Drive.steps(x, 0, 6, 6);
        Check.same("waits for a write of any key", x.count(4), 2);
        x.work(1);
        Check.same("that write has ended", x.outcome(), 2);
        Drive.steps(x, 0, 7);
        Check.same("value from the second bucket", x.value(0), 3);
        Check.same("bit of the item before", x.item(0, 4), 0);
        Check.same("bit", x.item(1, 4), 1);
    }

    private static void lockedMisses() {
        SteppedCache x = new SteppedCache(4, 2);
        Drive.set(x, 1, 10);
        lock(x, 1);
        Drive.delete(x, 1);
        Drive.steps(x, 0, 8);
        Check.same("value", x.value(0), 0);
        for (int late = -1; late <= 1; late++) {
            SteppedCache y = new SteppedCache(4, 2);
            Drive.set(y, 1, 10);
            lock(y, 1);
            Drive.setFor(y, 1, 40, 5);
            y.pass(5 + late);
            Drive.steps(y, 0, late < 0 ? 7 : 8);
            Check.same("value at the time " + y.count(7), y.value(0), late < 0 ? 40 : 0);
            Check.same("bit at the time " + y.count(7), y.item(0, 4), late < 0 ? 1 : 0);
            Check.yes("no reader removes", y.used(0));
            Check.same("expired ones removed", y.count(6), 0);
        }
    }

    private static void lockedCountsNearMisses() {
        SteppedCache x = new SteppedCache(4, 2);
        int key = Keys.nth(1, 0, 1, 0, Keys.ANY);
        Drive.set(x, Keys.nth(0, 0, 1, 0, Keys.ANY), 1);
        Drive.set(x, key, 10);
        lock(x, key);
        int before = x.count(5);
        Drive.steps(x, 0, 7);
        Check.same("near misses of the step", x.count(5) - before, 1);
    }

    private static void retriesBeginAnew() {
        SteppedCache x = new SteppedCache(4, 2);
        Drive.set(x, 1, 10);
        lock(x, 1);
        Drive.steps(x, 0, 7);
        lock(x, 1);
        Check.same("retries", x.count(3), 6);
    }

    private static void movedItemIsFoundOnce() {
        SteppedCache x = new SteppedCache(12, 1);
        int moved = Keys.nth(0, 0, 2);
        Drive.set(x, moved, 10);
        Drive.set(x, Keys.nth(0, 1, 0), 20);
        x.get(0, moved);
        x.get(1, moved);
        Drive.steps(x, 0, 2);
        Drive.steps(x, 1, 2);
        x.write(0, Keys.nth(0, 0, 1), 30, 0, 0);
        x.work(3);
        Check.same("in both places", x.at(2), x.at(0));
        Drive.steps(x, 0, 4, 5, 1, 1);
        x.work(1);
        Drive.steps(x, 1, 3, 4, 5, 1);
        x.work(1);
        Drive.steps(x, 0, 2, 3, 4, 5, 7);
        Check.same("value of the moved one", x.value(0), 10);
        Check.same("retries", x.count(3), 2);
        Check.same("waits", x.count(4), 1);
    }

    private static void valueAndTokenOnlyAtHit() {
        SteppedCache x = new SteppedCache(4, 2);
        Drive.set(x, 1, 10);
        Check.same("reading", Drive.read(x, 0, 1), 7);
        x.get(0, 1);
        for (int n = 0; n < 4; n++) {
            Check.same("value in state " + x.state(0), x.value(0), 0);
            Check.same("token in state " + x.state(0), x.token(0), 0);
            x.step(0);
        }
        Check.same("value at HIT", x.value(0), 10);
        Check.same("token at HIT", x.token(0), 1);
    }

    private static void readersAreApart() {
        SteppedCache x = new SteppedCache(4, 2);
        for (int r = 0; r < 3; r++) {
            Drive.set(x, 10 + r, 100 + r);
        }
        for (int r = 0; r < 3; r++) {
            x.get(r, 10 + r);
        }
        int[][] steps = {{2, 2}, {0, 2}, {2, 4}, {1, 2}, {1, 4}, {2, 5}, {0, 4}, {2, 7}, {0, 5}, {0, 7}, {1, 5}, {1, 7}};
        for (int[] step : steps) {
            Drive.steps(x, step[0], step[1]);
        }
        for (int r = 0; r < 3; r++) {
            Check.same("value(" + r + ")", x.value(r), 100 + r);
            Check.same("token(" + r + ")", x.token(r), 1 + r);
        }
    }

    private static void onlyTheVersionAtTheFirstStepIsKept() {
        SteppedCache x = new SteppedCache(4, 2);
        Drive.set(x, 1, 10);
        x.get(0, 1);
        Drive.set(x, 1, 20);
        Check.same("state while the key changes", x.state(0), 1);
        Drive.steps(x, 0, 2, 4, 5, 7);
        Check.same("value", x.value(0), 20);
        Check.same("retries", x.count(3), 0);
    }

    /** Three items in one slot each; to set ROOM_NEEDED, B is moved by steps 3 and 4, A by 5 and 6. */
    private static SteppedCache beforeMoves() {
        SteppedCache x = new SteppedCache(4, 1);
        Drive.set(x, A, 10);
        Drive.set(x, B, 20);
        Drive.set(x, C, 30);
        x.write(Drive.SET, ROOM_NEEDED, 40, 0, 0);
        return x;
    }

    private static void waitsAtEachStepOfMoves() {
        int[] keys = {C, A, B, ROOM_NEEDED};
        for (int stripe = 0; stripe < 4; stripe++) {
            for (int step = 1; step <= 7; step++) {
                SteppedCache x = beforeMoves();
                x.work(step);
                boolean odd = stripe == 2 && step == 3 || stripe == 1 && step == 5;
                x.get(0, keys[stripe]);
                Drive.steps(x, 0, odd ? 1 : 2);
                Check.same("waits of stripe " + stripe + " after step " + step, x.count(4), odd ? 1 : 0);
                x.work(50);
                Check.yes("the reading goes on after the write", x.step(0) > (odd ? 1 : 2));
            }
        }
    }

    private static int endOf(SteppedCache x, int r) {
        for (int n = 0; n < 6 && x.state(r) < 7; n++) {
            x.step(r);
        }
        return x.state(r);
    }

    /** A reading that keeps the version before a step of the write and checks it after: only some steps matter. */
    private static void retriesAtEachStepOfMoves() {
        int[] keys = {C, A, B, ROOM_NEEDED};
        for (int stripe = 0; stripe < 4; stripe++) {
            for (int step = 1; step <= 7; step++) {
                SteppedCache x = beforeMoves();
                if (step > 1) {
                    x.work(step - 1);
                }
                if (x.version(stripe) % 2 != 0) {
                    continue;
                }
                x.get(0, keys[stripe]);
                Drive.steps(x, 0, 2);
                for (int n = 0; n < 3 && x.state(0) < 5; n++) {
                    x.step(0);
                }
                x.work(1);
                boolean grown = stripe == 2 && step == 3 || stripe == 1 && step == 5;
                int end = stripe == 3 ? 8 : 7;
                Check.same("stripe " + stripe + ", step " + step, x.step(0), grown ? 1 : end);
                Check.same("retries", x.count(3), grown ? 1 : 0);
            }
        }
    }

    private static void retryByEachWayOfRemoval() {
        for (int way = 0; way < 3; way++) {
            SteppedCache x = new SteppedCache(1, 2);
            Drive.setFor(x, 1, 10, 3);
            x.get(0, 1);
            x.get(1, 1);
            Drive.steps(x, 0, 2);
            Drive.steps(x, 1, 2, 4, 5);
            if (way == 0) {
                Drive.delete(x, 1);
            } else if (way == 1) {
                x.pass(3);
                Check.same("REPLACE of what is expired", Drive.write(x, Drive.REPLACE, 1, 0, 0, 0), 2);
            } else {
                Drive.set(x, 2, 20);
            }
            Drive.steps(x, 0, 3, 5, 1, 2, 3, 5, 8);
            Drive.steps(x, 1, 1, 2, 3, 5, 8);
            Check.same("retries by removal " + way, x.count(3), 2);
        }
    }

    /** Between FIRST and COPY the item is freed, and then used for another key: the check sees it. */
    private static void copyOfAnItemThatHasGone() {
        for (int again = 0; again < 2; again++) {
            SteppedCache x = new SteppedCache(1, 2);
            Drive.set(x, 1, 10);
            x.get(0, 1);
            Drive.steps(x, 0, 2, 4);
            Drive.delete(x, 1);
            if (again == 1) {
                Drive.set(x, 2, 20);
            }
            Drive.steps(x, 0, 5, 1, 2, 3, 5, 8);
            Check.same("bit of the item", x.item(0, 4), 0);
            Check.same("retries", x.count(3), 1);
        }
    }

    /** An INSERT grows no version, so the reading sees the key or not as it comes to its bucket. */
    private static void insertUnderAReading() {
        int key = Keys.nth(1, 3, 5);
        for (int steps = 1; steps <= 4; steps++) {
            for (int second = 0; second < 2; second++) {
                SteppedCache x = new SteppedCache(4, 1);
                if (second == 1) {
                    Drive.set(x, Keys.nth(0, 3, 5), 1);
                }
                x.get(0, key);
                for (int n = 1; n < steps; n++) {
                    x.step(0);
                }
                Drive.set(x, key, 10);
                boolean seen = steps <= (second == 1 ? 3 : 2);
                Check.same("INSERT before step " + steps + " into bucket " + second, endOf(x, 0), seen ? 7 : 8);
                Check.same("retries", x.count(3), 0);
                Check.same("value", x.value(0), seen ? 10 : 0);
            }
        }
    }

    private static void otherKeysOfTheStripeMatter() {
        SteppedCache x = new SteppedCache(4, 2);
        Drive.set(x, 1, 10);
        int other = Keys.nth(0, 4, 6, Keys.ANY, Keys.stripe(1));
        Drive.set(x, other, 10);
        x.get(0, 1);
        Drive.steps(x, 0, 2);
        Drive.set(x, other, 20);
        Drive.steps(x, 0, 4, 5, 1);
        Check.same("retries", x.count(3), 1);
        x.write(Drive.SET, other, 30, 0, 0);
        x.work(2);
        Drive.steps(x, 0, 1);
        Check.same("waits", x.count(4), 1);
    }

    /** Also a reading that finds nothing goes to LOCKED with its third retry. */
    private static void thirdRetryWithoutAnItem() {
        SteppedCache x = new SteppedCache(4, 2);
        int other = Keys.nth(0, 4, 6, Keys.ANY, Keys.stripe(1));
        Drive.set(x, other, 0);
        x.get(1, 1);
        for (int retry = 1; retry <= 3; retry++) {
            Drive.steps(x, 1, 2, 3, 5);
            Drive.set(x, other, retry);
            Drive.steps(x, 1, retry < 3 ? 1 : 6);
            Check.same("retries", x.count(3), retry);
        }
        Drive.steps(x, 1, 8, -1);
    }

    /** Two retries of one reading and two of the next, or of another reader's, are not three of one. */
    private static void retriesAreOfOneReading() {
        SteppedCache x = new SteppedCache(4, 2);
        Drive.set(x, 1, 10);
        for (int reading = 0; reading < 3; reading++) {
            x.get(0, 1);
            x.get(1, 1);
            for (int retry = 1; retry <= 2; retry++) {
                Drive.steps(x, 0, 2, 4, 5);
                Drive.steps(x, 1, 2, 4, 5);
                Drive.set(x, 1, retry);
                Drive.steps(x, 0, 1);
                Drive.steps(x, 1, 1);
            }
            Drive.steps(x, 0, 2, 4, 5, 7);
            Drive.steps(x, 1, 2, 4, 5, 7);
        }
        Check.same("retries", x.count(3), 12);
    }

    private static void waitsAreNoRetries() {
        SteppedCache x = new SteppedCache(4, 2);
        Drive.set(x, 1, 10);
        x.get(0, 1);
        for (int retry = 1; retry <= 3; retry++) {
            Drive.steps(x, 0, 2, 4, 5);
            x.write(Drive.SET, 1, retry, 0, 0);
            x.work(2);
            Drive.steps(x, 0, retry < 3 ? 1 : 6);
            if (retry < 3) {
                Drive.steps(x, 0, 1, 1, 1, 1);
                Check.same("waits", x.count(4), 4 * retry);
            }
            Check.same("retries", x.count(3), retry);
            x.work(1);
        }
    }

    private static void lockedWaitsForEachStep() {
        SteppedCache x = new SteppedCache(4, 2);
        Drive.set(x, 1, 10);
        lock(x, 1);
        x.write(Drive.SET, 1, 50, 0, 0);
        for (int waits = 1; waits <= 3; waits++) {
            Drive.steps(x, 0, 6);
            Check.same("waits", x.count(4), waits);
            x.work(1);
        }
        Check.same("the write has ended", x.outcome(), 1);
        Drive.steps(x, 0, 7);
        Check.same("waits at the end", x.count(4), 3);
        Check.same("value", x.value(0), 50);
        Check.same("token", x.token(0), 5);
        Check.same("retries", x.count(3), 3);
    }

    /** No version is kept there: what has changed since the third retry does not matter. */
    private static void lockedMakesNoCheck() {
        SteppedCache x = new SteppedCache(4, 2);
        Drive.set(x, 1, 10);
        lock(x, 1);
        Drive.set(x, 1, 60);
        Drive.delete(x, 1);
        Drive.set(x, 1, 70);
        Drive.steps(x, 0, 7);
        Check.same("value", x.value(0), 70);
        Check.same("retries", x.count(3), 3);
    }

    private static void lockedNearMissesInBothBuckets() {
        SteppedCache x = new SteppedCache(4, 1);
        int key = Keys.nth(2, 0, 1, 0, 1);
        Drive.set(x, Keys.nth(0, 0, 1, 0, 1), 1);
        Drive.set(x, Keys.nth(1, 0, 1, 0, 1), 1);
        x.get(0, key);
        for (int retry = 1; retry <= 3; retry++) {
            Drive.steps(x, 0, 2, 3, 5);
            Drive.set(x, Keys.nth(0, 0, 1, 0, 1), retry);
            Drive.steps(x, 0, retry < 3 ? 1 : 6);
        }
        int before = x.count(5);
        x.write(Drive.DELETE, 1000, 0, 0, 0);
        Drive.steps(x, 0, 6);
        Check.same("a wait looks nothing up", x.count(5), before);
        x.work(1);
        before = x.count(5);
        Drive.steps(x, 0, 8);
        Check.same("near misses in both buckets", x.count(5) - before, 2);
    }

    /** The expiry that was copied counts, with the time of the check. */
    private static void expiryTimes() {
        for (int early = 0; early < 2; early++) {
            SteppedCache x = new SteppedCache(4, 2);
            Drive.setFor(x, 1, 10, 5);
            x.get(0, 1);
            if (early == 1) {
                x.pass(5);
            }
            Drive.steps(x, 0, 2, 4);
            Drive.steps(x, 0, 5, early == 1 ? 8 : 7);
            Check.yes("the item stays", x.used(0));
            Check.same("the bit", x.item(0, 4), 1 - early);
        }
    }

    private static void bitStaysOnAfterAMiss() {
        SteppedCache x = new SteppedCache(4, 2);
        Drive.setFor(x, 1, 10, 5);
        Check.same("HIT", Drive.read(x, 0, 1), 7);
        x.pass(5);
        Check.same("MISS", Drive.read(x, 1, 1), 8);
        Check.same("the bit", x.item(0, 4), 1);
        Check.same("the first reader's value stays", x.value(0), 10);
        Check.same("the second reader's value", x.value(1), 0);
    }

    private static void getBeginsAnewAfterTheEnd() {
        SteppedCache x = new SteppedCache(4, 2);
        Drive.set(x, 1, 10);
        for (int r : Numbers.edges(0, 2)) {
            Check.same("HIT", Drive.read(x, r, 1), 7);
            Check.same("MISS", Drive.read(x, r, 2), 8);
            Check.same("value after HIT and MISS", x.value(r), 0);
            Check.same("token after HIT and MISS", x.token(r), 0);
            Check.same("HIT again", Drive.read(x, r, 1), 7);
            Check.same("value", x.value(r), 10);
        }
        Check.yes("get", x.get(1, 1));
        Check.same("state of the one", x.state(1), 1);
        Check.same("state of another", x.state(0), 7);
        Check.same("state of the third", x.state(2), 7);
    }
}
