import java.math.BigInteger;

/** What the document says under "Terms" before the writes: hashes, table, items, look-ups, removals. */
public final class TermsTest {
    private static final int[] ODD_KEYS = {
        0, 1, -1, 2, -2, 32767, 32768, 65535, 65536, -32768, -32769,
        Integer.MAX_VALUE, Integer.MAX_VALUE - 1, Integer.MIN_VALUE, Integer.MIN_VALUE + 1, 1 << 30, -(1 << 30),
    };
    private static final int GONE = Keys.nth(0, 6, 2, Keys.ANY, 1);
    private static final int STAYING = Keys.nth(1, 6, 2, Keys.ANY, 1);

    public static void main(String[] args) {
        productWraps();
        otherBucketByTag();
        anyIntIsAKey();
        valuesAreKeptAsTheyAre();
        placesOfBuckets();
        itemNumbers();
        expiryIsNotAfterTheTime();
        expiryOfNever();
        lookUpGoesPastFreePlaces();
        lookUpStopsAtTheKey();
        secondBucketOnlyIfNotFoundInTheFirst();
        nearMissIsOfTheTag();
        nearMissesOfExpiredOnes();
        nearMissesOfAnItemInTwoPlaces();
        nearMissesByEachState();
        removalByDelete();
        removalByExpiry();
        removalByEviction();
        allIsFreeAtFirst();
        Check.end();
    }

    /** The hash worked out without any int, so that it cannot wrap or shift in the same wrong way. */
    private static int hashInFull(int key) {
        BigInteger word = BigInteger.ONE.shiftLeft(32);
        BigInteger unsigned = BigInteger.valueOf(key).mod(word);
        BigInteger h = unsigned.xor(unsigned.shiftRight(15)).multiply(BigInteger.valueOf(1368264107)).mod(word);
        int tag = h.shiftRight(28).intValue();
        int first = h.shiftRight(25).intValue() % 8;
        int stripe = h.shiftRight(23).intValue() % 4;
        int second = first ^ (1 + tag % 7);
        return first + 8 * second + 64 * tag + 1024 * stripe;
    }

    private static void productWraps() {
        SteppedCache x = new SteppedCache(1, 1);
        for (int key : ODD_KEYS) {
            Check.same("hash(" + key + ")", x.hash(key), hashInFull(key));
        }
        for (int n = 0; n < 32; n++) {
            Check.same("hash of bit " + n, x.hash(1 << n), hashInFull(1 << n));
            Check.same("hash of all but bit " + n, x.hash(~(1 << n)), hashInFull(~(1 << n)));
        }
        for (int n = 0; n < 400; n++) {
            int key = n * 1540483477;
            Check.same("hash(" + key + ")", x.hash(key), hashInFull(key));
        }
    }

    /** The tag counts modulo 7, so that 7 and 14 begin anew. */
    private static void otherBucketByTag() {
        int[] steps = {1, 2, 3, 4, 5, 6, 7, 1, 2, 3, 4, 5, 6, 7, 1, 2};
        SteppedCache x = new SteppedCache(32, 1);
        for (int tag = 0; tag < 16; tag++) {
            for (int first = 0; first < 8; first += 7) {
                int key = Keys.nth(0, first, first ^ steps[tag], tag, Keys.ANY);
                Check.same("second bucket for tag " + tag, x.hash(key) / 8 % 8, first ^ steps[tag]);
                Check.same("first bucket for tag " + tag, x.hash(key) % 8, first);
                Check.same("tag " + tag, x.hash(key) / 64 % 16, tag);
            }
        }
    }

    private static void anyIntIsAKey() {
        for (int key : ODD_KEYS) {
            SteppedCache x = new SteppedCache(3, 2);
            Drive.set(x, key, 10);
            Check.same("place of " + key, x.where(key), 2 * Keys.first(key));
            Check.same("key of the item", x.item(0, 0), key);
            Check.same("a key next to it", x.where(key ^ 1), -1);
            Check.same("reading of " + key, Drive.read(x, 0, key), 7);
            Check.same("value of " + key, x.value(0), 10);
            Check.same("REPLACE of " + key, Drive.write(x, Drive.REPLACE, key, 11, 0, 0), 1);
            Drive.delete(x, key);
            Check.same("reading of " + key + " after DELETE", Drive.read(x, 0, key), 8);
        }
    }

    private static void valuesAreKeptAsTheyAre() {
        SteppedCache x = new SteppedCache(3, 2);
        for (int value : ODD_KEYS) {
            Drive.set(x, 1, value);
            Check.same("item value " + value, x.item(0, 1), value);
            Check.same("reading", Drive.read(x, 1, 1), 7);
            Check.same("value " + value, x.value(1), value);
        }
    }

    /** A table full of items that all are in their first bucket, item n in place n. */
    private static SteppedCache full(int ways) {
        SteppedCache x = new SteppedCache(32, ways);
        for (int p = 0; p < 8 * ways; p++) {
            Drive.set(x, keyOfPlace(p, ways), p);
        }
        return x;
    }

    private static int keyOfPlace(int p, int ways) {
        return Keys.nth(p % ways, p / ways, p / ways ^ 1);
    }

    private static void placesOfBuckets() {
        for (int ways = 1; ways <= 4; ways++) {
            SteppedCache x = full(ways);
            for (int p = 0; p < 8 * ways; p++) {
                Check.same("at(" + p + ") with ways " + ways, x.at(p), p);
                Check.same("where with ways " + ways, x.where(keyOfPlace(p, ways)), p);
            }
            for (int p : Numbers.beyond(0, 8 * ways - 1)) {
                Check.same("at(" + p + ") with ways " + ways, x.at(p), -1);
            }
        }
    }

    private static void itemNumbers() {
        for (int items : new int[] {1, 2, 12, 31, 32}) {
            SteppedCache x = new SteppedCache(items, 4);
            for (int n = 0; n < items; n++) {
                Check.no("used(" + n + ") before", x.used(n));
                Drive.set(x, keyOfPlace(n, 4), n);
                Check.yes("used(" + n + ") of " + items, x.used(n));
                Check.same("item(" + n + ", 0) of " + items, x.item(n, 0), keyOfPlace(n, 4));
            }
            for (int n : Numbers.beyond(0, items - 1)) {
                Check.no("used(" + n + ") of " + items, x.used(n));
                Check.same("item(" + n + ", 0) of " + items, x.item(n, 0), 0);
                Check.same("item(" + n + ", 2) of " + items, x.item(n, 2), 0);
            }
        }
    }

    /** An item set at the time 7 for a life of 5 has the expiry 12: expired at 12, not at 11. */
    private static void expiryIsNotAfterTheTime() {
        for (int passed = 3; passed <= 7; passed++) {
            boolean expired = passed >= 5;
            SteppedCache x = new SteppedCache(3, 2);
            x.pass(7);
            Drive.setFor(x, 1, 10, 5);
            Check.same("expiry", x.item(0, 3), 12);
            x.pass(passed);
            Check.same("reading at " + x.count(7), Drive.read(x, 0, 1), expired ? 8 : 7);
            Check.same("ADD at " + x.count(7), Drive.write(x, Drive.ADD, 1, 11, 0, 0), expired ? 1 : 2);
        }
        SteppedCache x = new SteppedCache(3, 2);
        Drive.setFor(x, 1, 10, 1000);
        x.pass(999);
        Check.same("reading before the longest life ends", Drive.read(x, 0, 1), 7);
        x.pass(1);
        Check.same("reading at its end", Drive.read(x, 0, 1), 8);
    }

    private static void expiryOfNever() {
        SteppedCache x = new SteppedCache(3, 2);
        Drive.set(x, 1, 10);
        for (int n = 0; n < 30; n++) {
            x.pass(1000);
            Check.same("reading at " + x.count(7), Drive.read(x, 0, 1), 7);
        }
        Check.same("DELETE of it", Drive.write(x, Drive.DELETE, 1, 0, 0, 0), 5);
        Check.same("expired ones removed", x.count(6), 0);
    }

    private static int sameTag(int n) {
        return Keys.nth(n, 0, 1, 0, Keys.ANY);
    }

    private static void lookUpGoesPastFreePlaces() {
        SteppedCache x = new SteppedCache(8, 4);
        for (int n = 0; n < 4; n++) {
            Drive.set(x, sameTag(n), n);
        }
        Drive.delete(x, sameTag(0));
        Drive.delete(x, sameTag(2));
        Check.same("where past a free place", x.where(sameTag(1)), 1);
        Check.same("where past two free places", x.where(sameTag(3)), 3);
        int before = x.count(5);
        Check.same("reading past free places", Drive.read(x, 0, sameTag(3)), 7);
        Check.same("value", x.value(0), 3);
        Check.same("a free place is no near miss", x.count(5) - before, 1);
        Check.same("ADD of it", Drive.write(x, Drive.ADD, sameTag(3), 9, 0, 0), 2);
    }

    private static void lookUpStopsAtTheKey() {
        for (int n = 0; n < 4; n++) {
            SteppedCache x = new SteppedCache(8, 4);
            for (int k = 0; k < 4; k++) {
                Drive.set(x, sameTag(k), k);
            }
            int before = x.count(5);
            x.write(Drive.ADD, sameTag(n), 0, 0, 0);
            x.work(1);
            Check.same("near misses before slot " + n, x.count(5) - before, n);
        }
    }

    private static void secondBucketOnlyIfNotFoundInTheFirst() {
        SteppedCache x = new SteppedCache(8, 2);
        int inFirst = sameTag(0);
        Drive.set(x, inFirst, 1);
        int fromOtherSide = Keys.nth(0, 1, 0, 0, Keys.ANY);
        Drive.set(x, fromOtherSide, 2);
        int before = x.count(5);
        Drive.write(x, Drive.ADD, inFirst, 0, 0, 0);
        Check.same("found in the first, no near miss in the second", x.count(5) - before, 0);
        Drive.write(x, Drive.DELETE, sameTag(1), 0, 0, 0);
        Check.same("not found, near misses in both", x.count(5) - before, 2);
    }

    private static void nearMissIsOfTheTag() {
        int[] tags = {0, 7, 14};
        for (int tag : tags) {
            SteppedCache x = new SteppedCache(8, 4);
            for (int other : tags) {
                Drive.set(x, Keys.nth(0, 0, 1, other, Keys.ANY), 1);
            }
            int before = x.count(5);
            Drive.write(x, Drive.REPLACE, Keys.nth(1, 0, 1, tag, Keys.ANY), 0, 0, 0);
            Check.same("near misses for tag " + tag, x.count(5) - before, 1);
        }
    }

    private static void nearMissesOfExpiredOnes() {
        SteppedCache x = new SteppedCache(8, 4);
        Drive.setFor(x, sameTag(0), 1, 1);
        x.pass(5);
        Drive.write(x, Drive.REPLACE, sameTag(1), 0, 0, 0);
        Check.same("an expired one is passed over too", x.count(5), 1);
        Drive.write(x, Drive.REPLACE, sameTag(0), 0, 0, 0);
        Check.same("the expired key itself is no near miss", x.count(5), 1);
        Drive.write(x, Drive.REPLACE, sameTag(1), 0, 0, 0);
        Check.same("a removed one is not passed over", x.count(5), 1);
    }

    /** While its item is moved on from bucket 0 to 1, a reader of another key of its tag meets it in both. */
    private static void nearMissesOfAnItemInTwoPlaces() {
        SteppedCache x = new SteppedCache(8, 1);
        int moved = sameTag(0);
        int turned = Keys.nth(0, 2, 0);
        Drive.set(x, moved, 1);
        Drive.set(x, turned, 2);
        x.write(Drive.SET, Keys.nth(0, 0, 2), 3, 0, 0);
        x.work(3);
        Check.same("at(0) in the midst of the move", x.at(0), 0);
        Check.same("at(1) in the midst of the move", x.at(1), 0);
        int key = Keys.nth(0, 0, 1, 0, Keys.stripe(moved) ^ 1);
        int before = x.count(5);
        x.get(0, key);
        Drive.steps(x, 0, 2, 3);
        Check.same("in the first bucket", x.count(5) - before, 1);
        Drive.steps(x, 0, 5);
        Check.same("in the second bucket too", x.count(5) - before, 2);
    }

    private static void nearMissesByEachState() {
        SteppedCache x = new SteppedCache(8, 2);
        Drive.set(x, sameTag(0), 1);
        Drive.set(x, sameTag(1), 1);
        Drive.set(x, sameTag(2), 1);
        int before = x.count(5);
        x.get(0, sameTag(3));
        int[] states = {2, 3, 5, 8};
        int[] misses = {0, 2, 3, 3};
        for (int n = 0; n < states.length; n++) {
            Drive.steps(x, 0, states[n]);
            Check.same("near misses up to state " + states[n], x.count(5) - before, misses[n]);
        }
        x.get(0, sameTag(2));
        Drive.steps(x, 0, 2, 3, 4, 5, 7);
        Check.same("near misses of a hit in the second bucket", x.count(5) - before, 5);
    }

    /** Both keys are set, and one step later the first one's item has been removed and nothing else changed. */
    private static void onlyOneIsRemoved(String how, SteppedCache x, View before, String... butFor) {
        Check.same(how + ": the place", x.at(12), -1);
        Check.no(how + ": the item", x.used(0));
        Check.same(how + ": the version of its stripe", x.version(1), 2);
        Check.same(how + ": the key", x.where(GONE), -1);
        Check.same(how + ": the other key", x.where(STAYING), 13);
        Check.same(how + ": the used items", x.count(0), 1);
        View after = View.of(x, 2, 2);
        String[] looked = {"at(12)", "used(0)", "item(0, 0)", "item(0, 1)", "item(0, 2)", "item(0, 3)", "version(1)", "count(0)"};
        String[] all = new String[looked.length + butFor.length];
        System.arraycopy(looked, 0, all, 0, looked.length);
        System.arraycopy(butFor, 0, all, looked.length, butFor.length);
        after.mustBe(how, before, all);
        for (int which = 0; which < 5; which++) {
            Check.same(how + ": item(0, " + which + ")", x.item(0, which), 0);
        }
    }

    private static SteppedCache withBoth(int life) {
        SteppedCache x = new SteppedCache(2, 2);
        Drive.setFor(x, GONE, 10, life);
        Drive.setFor(x, STAYING, 20, 0);
        return x;
    }

    private static void removalByDelete() {
        SteppedCache x = withBoth(3);
        View before = View.of(x, 2, 2);
        x.write(Drive.DELETE, GONE, 0, 0, 0);
        x.work(1);
        Check.same("DELETED", x.outcome(), 5);
        onlyOneIsRemoved("DELETE", x, before, "outcome()");
        Check.same("DELETE again", Drive.write(x, Drive.DELETE, GONE, 0, 0, 0), 4);
        Check.same("the version stays", x.version(1), 2);
    }

    private static void removalByExpiry() {
        for (int kind = 0; kind <= 4; kind++) {
            SteppedCache x = withBoth(3);
            x.pass(3);
            View before = View.of(x, 2, 2);
            x.write(kind, GONE, 30, 0, 1);
            x.work(1);
            Check.same("expired ones removed", x.count(6), 1);
            onlyOneIsRemoved("expiry, kind " + kind, x, before, "outcome()", "count(6)");
        }
    }

    private static void removalByEviction() {
        SteppedCache x = withBoth(3);
        View before = View.of(x, 2, 2);
        x.write(Drive.SET, Keys.nth(0, 3, 4), 30, 0, 0);
        x.work(2);
        Check.same("evictions", x.count(1), 1);
        Check.same("hand", x.count(8), 1);
        onlyOneIsRemoved("eviction", x, before, "outcome()", "count(1)", "count(8)");
    }

    private static void allIsFreeAtFirst() {
        int[] numbers = {1, 12, 32, 0, 33, -5, Integer.MIN_VALUE, Integer.MAX_VALUE};
        for (int items : numbers) {
            for (int ways : new int[] {1, 2, 3, 4, 0, 5, Integer.MIN_VALUE, Integer.MAX_VALUE}) {
                SteppedCache x = new SteppedCache(items, ways);
                String what = "new SteppedCache(" + items + ", " + ways + "): ";
                for (int p = 0; p < 32; p++) {
                    Check.same(what + "at(" + p + ")", x.at(p), -1);
                    Check.no(what + "used(" + p + ")", x.used(p));
                    for (int which = 0; which < 5; which++) {
                        Check.same(what + "item(" + p + ", " + which + ")", x.item(p, which), 0);
                    }
                }
                for (int n = 0; n < 10; n++) {
                    Check.same(what + "count(" + n + ")", x.count(n), 0);
                    Check.same(what + "version(" + n + ")", x.version(n), n < 4 ? 0 : -1);
                    Check.same(what + "state(" + n + ")", x.state(n), n < 3 ? 0 : -1);
                    Check.same(what + "value(" + n + ")", x.value(n), 0);
                    Check.same(what + "token(" + n + ")", x.token(n), 0);
                    Check.same(what + "where(" + n + ")", x.where(n), -1);
                }
                Check.same(what + "outcome()", x.outcome(), -1);
            }
        }
    }
}
