/** Promises 2 to 4: how a write begins, goes on and ends. */
public final class WriteTest {
    public static void main(String[] args) {
        wrongWrites();
        writeDoesNoStep();
        wrongWork();
        outcomeFollowsTheLatestWrite();
        setAndAddAndReplace();
        cas();
        delete();
        expiredKeyCountsAsNotFound();
        changeTakesTwoSteps();
        changeUsesTheTimeOfItsLastStep();
        insertUsesTheTimeOfItsLastStep();
        insertPutsTheBitOff();
        evictionWithBits();
        evictionWhenAllBitsAreOn();
        evictionThenNoRoom();
        expiredKeyIsRemovedBeforeFullnessCounts();
        firstBucketFirst();
        firstBucketBeforeLesserPlace();
        shorterPathBeforeFirstBucket();
        lesserPlacesFirst();
        moveTakesTwoSteps();
        fourMovesAreTheMost();
        Check.end();
    }

    private static void wrongWrites() {
        SteppedCache x = new SteppedCache(4, 2);
        int[] kinds = {-1, 5, Integer.MIN_VALUE, Integer.MAX_VALUE};
        for (int kind : kinds) {
            Check.no("write of kind " + kind, x.write(kind, 1, 1, 0, 0));
        }
        int[] lives = {-1, 1001, Integer.MIN_VALUE, Integer.MAX_VALUE};
        for (int life : lives) {
            for (int kind = 0; kind < 5; kind++) {
                Check.no("write of kind " + kind + " with life " + life, x.write(kind, 1, 1, life, 0));
            }
        }
        Check.same("no write was begun", x.outcome(), -1);
        Check.same("no step was done", x.work(50), 0);
        Check.yes("life 1000", x.write(0, 1, 10, 1000, 0));
        Check.no("a second write", x.write(0, 2, 20, 0, 0));
        x.work(1);
        Check.no("a second write later", x.write(4, 1, 20, 0, 0));
        Check.same("the rest of the first write", x.work(50), 2);
        Check.same("its key", x.item(0, 0), 1);
        Check.same("its value", x.item(0, 1), 10);
        Check.same("its expiry", x.item(0, 3), 1000);
        Check.no("a wrong write later", x.write(5, 1, 1, 0, 0));
        Check.same("outcome after a wrong write", x.outcome(), 1);
    }

    private static void writeDoesNoStep() {
        SteppedCache x = new SteppedCache(4, 2);
        Drive.set(x, 1, 10);
        x.write(4, 1, 0, 0, 0);
        Check.yes("nothing is done yet", x.used(0));
        Check.same("outcome before the first step", x.outcome(), 0);
        Check.same("near misses before the first step", x.count(5), 0);
    }

    private static void wrongWork() {
        SteppedCache x = new SteppedCache(4, 2);
        Check.same("work without a write", x.work(1), 0);
        x.write(0, 1, 10, 0, 0);
        int[] wrong = {0, -1, 51, Integer.MIN_VALUE, Integer.MAX_VALUE};
        for (int n : wrong) {
            Check.same("work(" + n + ")", x.work(n), 0);
        }
        Check.same("work(2)", x.work(2), 2);
        Check.no("not yet used", x.used(0));
        Check.same("work(50)", x.work(50), 1);
        Check.yes("used", x.used(0));
        Check.same("work at the end", x.work(50), 0);
    }

    private static void outcomeFollowsTheLatestWrite() {
        SteppedCache x = new SteppedCache(4, 2);
        Check.same("no write", x.outcome(), -1);
        x.write(0, 1, 10, 0, 0);
        Check.same("begun", x.outcome(), 0);
        x.work(2);
        Check.same("under way", x.outcome(), 0);
        x.work(1);
        Check.same("ended", x.outcome(), 1);
        x.write(4, 2, 10, 0, 0);
        Check.same("the next has begun", x.outcome(), 0);
        x.work(1);
        Check.same("the next has ended", x.outcome(), 4);
    }

    private static void setAndAddAndReplace() {
        SteppedCache x = new SteppedCache(4, 2);
        Check.same("REPLACE not found", Drive.write(x, Drive.REPLACE, 1, 10, 0, 0), 2);
        Check.same("nothing is stored", x.count(0), 0);
        Check.same("ADD not found", Drive.write(x, Drive.ADD, 1, 11, 0, 0), 1);
        Check.same("ADD found", Drive.write(x, Drive.ADD, 1, 12, 0, 0), 2);
        Check.same("the value stays", x.item(0, 1), 11);
        Check.same("the token stays", x.item(0, 2), 1);
        Check.same("REPLACE found", Drive.write(x, Drive.REPLACE, 1, 13, 7, 0), 1);
        Check.same("value of REPLACE", x.item(0, 1), 13);
        Check.same("token of REPLACE", x.item(0, 2), 2);
        Check.same("expiry of REPLACE", x.item(0, 3), 7);
        Check.same("SET found", Drive.write(x, Drive.SET, 1, 14, 0, 0), 1);
        Check.same("value of SET", x.item(0, 1), 14);
        Check.same("token of SET", x.item(0, 2), 3);
        Check.same("expiry of SET", x.item(0, 3), 0);
        Check.same("still one item", x.count(0), 1);
    }

    private static void cas() {
        SteppedCache x = new SteppedCache(4, 2);
        Check.same("CAS not found", Drive.write(x, Drive.CAS, 1, 10, 0, 0), 4);
        Drive.set(x, 1, 10);
        Check.same("CAS with another token", Drive.write(x, Drive.CAS, 1, 11, 0, 2), 3);
        Check.same("the value stays", x.item(0, 1), 10);
        Check.same("version stays", x.version(Keys.stripe(1)), 0);
        Check.same("CAS with its token", Drive.write(x, Drive.CAS, 1, 12, 0, 1), 1);
        Check.same("the value is new", x.item(0, 1), 12);
        Check.same("the token is new", x.item(0, 2), 2);
        Check.same("CAS with the old token", Drive.write(x, Drive.CAS, 1, 13, 0, 1), 3);
    }

    private static void delete() {
        SteppedCache x = new SteppedCache(4, 2);
        Check.same("DELETE not found", Drive.write(x, Drive.DELETE, 1, 0, 0, 0), 4);
        Drive.set(x, 1, 10);
        x.write(4, 1, 0, 0, 0);
        Check.same("DELETE takes one step", x.work(50), 1);
        Check.same("DELETE found", x.outcome(), 5);
        Check.no("the item is free", x.used(0));
        Check.same("the place is free", x.at(0), -1);
        Check.same("version grows by 2", x.version(Keys.stripe(1)), 2);
    }

    private static void expiredKeyCountsAsNotFound() {
        int[] outcomes = {1, 1, 2, 4, 4};
        for (int kind = 0; kind < 5; kind++) {
            for (int late = 0; late < 2; late++) {
                SteppedCache x = new SteppedCache(4, 2);
                Drive.setFor(x, 1, 10, 5);
                x.pass(5 + late);
                Check.same("expired, kind " + kind, Drive.write(x, kind, 1, 20, 0, 1), outcomes[kind]);
                Check.same("version after removal, kind " + kind, x.version(Keys.stripe(1)), 2);
                Check.same("used after kind " + kind, x.count(0), kind < 2 ? 1 : 0);
            }
        }
        SteppedCache x = new SteppedCache(4, 2);
        Drive.setFor(x, 1, 10, 5);
        x.pass(4);
        Check.same("not yet expired", Drive.write(x, Drive.ADD, 1, 20, 0, 0), 2);
    }

    private static void changeTakesTwoSteps() {
        SteppedCache x = new SteppedCache(4, 2);
        int stripe = Keys.stripe(1);
        Drive.setFor(x, 1, 10, 5);
        Drive.read(x, 0, 1);
        x.write(0, 1, 20, 7, 0);
        x.work(1);
        Check.same("value after the look-up", x.item(0, 1), 10);
        Check.same("version after the look-up", x.version(stripe), 0);
        x.work(1);
        Check.same("value after the first step", x.item(0, 1), 20);
        Check.same("token after the first step", x.item(0, 2), 1);
        Check.same("expiry after the first step", x.item(0, 3), 5);
        Check.same("version after the first step", x.version(stripe), 1);
        Check.same("outcome after the first step", x.outcome(), 0);
        x.work(1);
        Check.same("token after the second step", x.item(0, 2), 2);
        Check.same("expiry after the second step", x.item(0, 3), 7);
        Check.same("version after the second step", x.version(stripe), 2);
        Check.same("outcome after the second step", x.outcome(), 1);
        Check.same("the bit stays", x.item(0, 4), 1);
    }

    private static void changeUsesTheTimeOfItsLastStep() {
        SteppedCache x = new SteppedCache(4, 2);
        Drive.setFor(x, 1, 10, 5);
        x.write(0, 1, 20, 7, 0);
        x.work(2);
        x.pass(100);
        x.work(1);
        Check.same("expiry", x.item(0, 3), 107);
    }

    private static void insertUsesTheTimeOfItsLastStep() {
        SteppedCache x = new SteppedCache(4, 2);
        x.write(0, 1, 20, 7, 0);
        x.work(2);
        x.pass(100);
        x.work(1);
        Check.same("expiry", x.item(0, 3), 107);
        Drive.set(x, 2, 20);
        Check.same("expiry for life 0", x.item(1, 3), 0);
    }

    private static void insertPutsTheBitOff() {
        SteppedCache x = new SteppedCache(4, 2);
        Drive.set(x, 1, 10);
        Drive.read(x, 0, 1);
        Drive.delete(x, 1);
        Drive.set(x, 2, 20);
        Check.same("key of the item used again", x.item(0, 0), 2);
        Check.same("its bit", x.item(0, 4), 0);
    }

    private static void evictionWithBits() {
        SteppedCache x = new SteppedCache(3, 4);
        Drive.set(x, 1, 10);
        Drive.set(x, 2, 20);
        Drive.set(x, 3, 30);
        Drive.read(x, 0, 1);
        Drive.read(x, 0, 3);
        x.write(0, 4, 40, 0, 0);
        x.work(1);
        Check.same("no eviction by the look-up", x.count(1), 0);
        x.work(1);
        Check.same("evictions", x.count(1), 1);
        Check.same("hand", x.count(8), 2);
        Check.no("the one without bit is out", x.used(1));
        Check.same("its key is not found", x.where(2), -1);
        Check.same("version of its stripe", x.version(Keys.stripe(2)), 2);
        Check.same("the bit passed over is off", x.item(0, 4), 0);
        Check.same("the bit behind stays on", x.item(2, 4), 1);
        Check.same("used items", x.count(0), 2);
        Check.same("path and insert", x.work(50), 2);
        Check.same("the freed item is taken", x.item(1, 0), 4);
        Check.same("its bit is off", x.item(1, 4), 0);
        Drive.set(x, 5, 50);
        Check.same("the hand goes round", x.item(0, 0), 5);
        Check.same("hand", x.count(8), 1);
        Check.same("the bit is off now", x.item(2, 4), 0);
        Drive.set(x, 6, 60);
        Drive.set(x, 7, 70);
        Check.same("after the last number 0 comes", x.count(8), 0);
    }

    private static void evictionWhenAllBitsAreOn() {
        SteppedCache x = new SteppedCache(2, 4);
        Drive.set(x, 1, 10);
        Drive.set(x, 2, 20);
        Drive.set(x, 3, 30);
        Drive.read(x, 0, 2);
        Drive.read(x, 0, 3);
        Check.same("hand before", x.count(8), 1);
        x.write(0, 4, 40, 0, 0);
        x.work(2);
        Check.no("the first one from the hand is out", x.used(1));
        Check.same("all bits went off", x.item(0, 4), 0);
        Check.same("hand", x.count(8), 0);
        SteppedCache one = new SteppedCache(1, 1);
        Drive.set(one, 1, 10);
        Drive.read(one, 0, 1);
        Drive.set(one, 2, 20);
        Check.same("the only item", one.item(0, 0), 2);
        Check.same("hand of one item", one.count(8), 0);
    }

    private static void evictionThenNoRoom() {
        SteppedCache x = new SteppedCache(3, 1);
        Drive.set(x, Keys.nth(0, 5, 6), 1);
        Drive.set(x, Keys.nth(0, 0, 1), 1);
        Drive.set(x, Keys.nth(1, 0, 1), 1);
        x.write(0, Keys.nth(2, 0, 1), 1, 0, 0);
        Check.same("look-up, eviction and path", x.work(50), 3);
        Check.same("NO ROOM", x.outcome(), 6);
        Check.same("the eviction stays", x.count(0), 2);
        Check.same("no token was given", x.count(9), 3);
        Check.same("a write can begin after it", Drive.write(x, Drive.SET, Keys.nth(0, 5, 6), 1, 0, 0), 1);
    }

    private static void expiredKeyIsRemovedBeforeFullnessCounts() {
        SteppedCache x = new SteppedCache(1, 1);
        Drive.setFor(x, 1, 10, 1);
        x.pass(1);
        x.write(0, 1, 20, 0, 0);
        Check.same("look-up, path and insert", x.work(50), 3);
        Check.same("no eviction", x.count(1), 0);
    }

    private static void firstBucketFirst() {
        SteppedCache x = new SteppedCache(12, 2);
        for (int n = 0; n < 4; n++) {
            int key = Keys.nth(n, 6, 2);
            Drive.set(x, key, 1);
            Check.same("place of key " + n, x.where(key), n < 2 ? 12 + n : 4 + n - 2);
        }
        Check.same("no moves", x.count(2), 0);
        Drive.delete(x, Keys.nth(0, 6, 2));
        Drive.set(x, Keys.nth(4, 6, 2), 1);
        Check.same("the place that became free", x.where(Keys.nth(4, 6, 2)), 12);
    }

    private static void firstBucketBeforeLesserPlace() {
        SteppedCache x = new SteppedCache(12, 1);
        int inFirst = Keys.nth(0, 5, 7);
        int inSecond = Keys.nth(0, 1, 3);
        Drive.set(x, inFirst, 1);
        Drive.set(x, inSecond, 1);
        int key = Keys.nth(0, 5, 1);
        Drive.set(x, key, 1);
        Check.same("the key is in its first bucket", x.where(key), 5);
        Check.same("the item of the first bucket has moved", x.where(inFirst), 7);
        Check.same("the item of the second one has not", x.where(inSecond), 1);
    }

    private static void shorterPathBeforeFirstBucket() {
        SteppedCache x = new SteppedCache(12, 1);
        int inFirst = Keys.nth(0, 0, 2);
        int behindIt = Keys.nth(0, 2, 4);
        int inSecond = Keys.nth(0, 1, 3);
        Drive.set(x, inFirst, 1);
        Drive.set(x, behindIt, 1);
        Drive.set(x, inSecond, 1);
        int key = Keys.nth(0, 0, 1);
        x.write(0, key, 1, 0, 0);
        Check.same("one move", x.work(50), 5);
        Check.same("the key is in its second bucket", x.where(key), 1);
        Check.same("the item there has moved", x.where(inSecond), 3);
        Check.same("moves", x.count(2), 1);
    }

    private static void lesserPlacesFirst() {
        SteppedCache x = new SteppedCache(20, 2);
        int[] blockers = {Keys.nth(0, 0, 3), Keys.nth(0, 0, 2), Keys.nth(0, 1, 6), Keys.nth(1, 1, 6)};
        for (int key : blockers) {
            Drive.set(x, key, 1);
        }
        int key = Keys.nth(0, 0, 1);
        Drive.set(x, key, 1);
        Check.same("the lesser p0", x.where(key), 0);
        Check.same("its item in the lesser p1", x.where(blockers[0]), 6);
    }

    private static void moveTakesTwoSteps() {
        SteppedCache x = new SteppedCache(12, 1);
        int a = Keys.nth(0, 0, 2, Keys.ANY, 1);
        int b = Keys.nth(0, 2, 3, Keys.ANY, 2);
        int c = Keys.nth(0, 1, 0, Keys.ANY, 0);
        Drive.set(x, a, 1);
        Drive.set(x, b, 1);
        Drive.set(x, c, 1);
        int key = Keys.nth(0, 0, 1, Keys.ANY, 3);
        x.write(0, key, 1, 0, 0);
        x.work(2);
        places(x, "after the path", 0, 2, 1, -1);
        x.work(1);
        places(x, "b in both places", 0, 2, 1, 1);
        Check.same("version of b", x.version(2), 1);
        Check.same("b is found in its first bucket", x.where(b), 2);
        Check.same("no move is done yet", x.count(2), 0);
        x.work(1);
        places(x, "b has moved", 0, 2, -1, 1);
        Check.same("version of b", x.version(2), 2);
        Check.same("a move is done", x.count(2), 1);
        x.work(1);
        places(x, "a in both places", 0, 2, 0, 1);
        Check.same("version of a", x.version(1), 1);
        x.work(1);
        places(x, "a has moved", -1, 2, 0, 1);
        Check.same("version of a", x.version(1), 2);
        Check.same("under way", x.outcome(), 0);
        Check.same("the last step", x.work(50), 1);
        places(x, "at the end", 3, 2, 0, 1);
        Check.same("version of the new key", x.version(3), 0);
        Check.same("moves", x.count(2), 2);
    }

    private static void places(SteppedCache x, String when, int... items) {
        for (int p = 0; p < items.length; p++) {
            Check.same(when + ": at(" + p + ")", x.at(p), items[p]);
        }
    }

    /** Buckets 0, 2, 3, .. each hold an item whose other bucket is the next one; bucket 1 leads back to 0. */
    private static SteppedCache chain(int length) {
        SteppedCache x = new SteppedCache(32, 1);
        Drive.set(x, Keys.nth(0, 0, 2), 1);
        Drive.set(x, Keys.nth(0, 1, 0), 1);
        for (int bucket = 2; bucket <= length; bucket++) {
            Drive.set(x, Keys.nth(0, bucket, bucket + 1), 1);
        }
        return x;
    }

    private static void fourMovesAreTheMost() {
        for (int length = 1; length <= 6; length++) {
            SteppedCache x = chain(length);
            int key = Keys.nth(0, 0, 1);
            x.write(0, key, 1, 0, 0);
            Check.same("steps with " + length + " moves", x.work(50), length <= 4 ? 3 + 2 * length : 2);
            Check.same("outcome with " + length + " moves", x.outcome(), length <= 4 ? 1 : 6);
            Check.same("moves of " + length, x.count(2), length <= 4 ? length : 0);
            Check.same("place", x.where(key), length <= 4 ? 0 : -1);
        }
    }
}
