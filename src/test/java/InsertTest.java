/** Promise 3, INSERT: the eviction, the path that is sought, the moves, the last step and NO ROOM. */
public final class InsertTest {
    /** What a slot of the chain's buckets may hold: an item that leads on, or one that leads back to the key's buckets. */
    private static final int SLOT_0_LEADS_ON = 0;
    private static final int SLOT_1_LEADS_ON = 1;
    private static final int BOTH_LEAD_ON = 2;
    private static final int[] CHAIN = {2, 3, 4, 5, 6};

    public static void main(String[] args) {
        insertUsesTheTimeOfItsLastStep();
        insertPutsTheBitOff();
        evictionWithBits();
        evictionWhenAllBitsAreOn();
        evictionThenNoRoom();
        expiredKeyIsRemovedBeforeFullnessCounts();
        firstBucketFirst();
        firstBucketBeforeLesserPlace();
        shorterPathBeforeFirstBucket();
        lesserPlacesFirst();
        moveTakesTwoSteps();
        fourMovesAreTheMost();
        oneFreeItemIsEnough();
        onlyInsertEvicts();
        handGoesRound();
        handPassesTheLastNumber();
        allBitsFromAnyHand();
        bitsOfTheMomentCount();
        expiredOnesAreUsed();
        bitsOfExpiredOnesCount();
        lowestFreeItem();
        lowestFreeSlot();
        chosenSlotsOfLongPaths();
        earlierPlacesCountFirst();
        shorterPathFromTheSecondBucket();
        noRoomChangesNothing();
        noRoomInACircle();
        versionsOfMovesOfOneStripe();
        movedItemsStayTheSame();
        insertStep();
        Check.end();
    }

    private static void insertUsesTheTimeOfItsLastStep() {
        SteppedCache x = new SteppedCache(4, 2);
        x.write(0, 1, 20, 7, 0);
        x.work(2);
        x.pass(100);
        x.work(1);
        Check.same("expiry", x.item(0, 3), 107);
        Drive.set(x, 2, 20);
        Check.same("expiry for life 0", x.item(1, 3), 0);
    }

    private static void insertPutsTheBitOff() {
        SteppedCache x = new SteppedCache(4, 2);
        Drive.set(x, 1, 10);
        Drive.read(x, 0, 1);
        Drive.delete(x, 1);
        Drive.set(x, 2, 20);
        Check.same("key of the item used again", x.item(0, 0), 2);
        Check.same("its bit", x.item(0, 4), 0);
    }

    private static void evictionWithBits() {
        SteppedCache x = new SteppedCache(3, 4);
        Drive.set(x, 1, 10);
        Drive.set(x, 2, 20);
        Drive.set(x, 3, 30);
        Drive.read(x, 0, 1);
        Drive.read(x, 0, 3);
        x.write(0, 4, 40, 0, 0);
        x.work(1);
        Check.same("no eviction by the look-up", x.count(1), 0);
        x.work(1);
        Check.same("evictions", x.count(1), 1);
        Check.same("hand", x.count(8), 2);
        Check.no("the one without bit is out", x.used(1));
        Check.same("its key is not found", x.where(2), -1);
        Check.same("version of its stripe", x.version(Keys.stripe(2)), 2);
        Check.same("the bit passed over is off", x.item(0, 4), 0);
        Check.same("the bit behind stays on", x.item(2, 4), 1);
        Check.same("used items", x.count(0), 2);
        Check.same("path and insert", x.work(50), 2);
        Check.same("the freed item is taken", x.item(1, 0), 4);
        Check.same("its bit is off", x.item(1, 4), 0);
        Drive.set(x, 5, 50);
        Check.same("the hand goes round", x.item(0, 0), 5);
        Check.same("hand", x.count(8), 1);
        Check.same("the bit is off now", x.item(2, 4), 0);
        Drive.set(x, 6, 60);
        Drive.set(x, 7, 70);
        Check.same("after the last number 0 comes", x.count(8), 0);
    }

    private static void evictionWhenAllBitsAreOn() {
        SteppedCache x = new SteppedCache(2, 4);
        Drive.set(x, 1, 10);
        Drive.set(x, 2, 20);
        Drive.set(x, 3, 30);
        Drive.read(x, 0, 2);
        Drive.read(x, 0, 3);
        Check.same("hand before", x.count(8), 1);
        x.write(0, 4, 40, 0, 0);
        x.work(2);
        Check.no("the first one from the hand is out", x.used(1));
        Check.same("all bits went off", x.item(0, 4), 0);
        Check.same("hand", x.count(8), 0);
        SteppedCache one = new SteppedCache(1, 1);
        Drive.set(one, 1, 10);
        Drive.read(one, 0, 1);
        Drive.set(one, 2, 20);
        Check.same("the only item", one.item(0, 0), 2);
        Check.same("hand of one item", one.count(8), 0);
    }

    private static void evictionThenNoRoom() {
        SteppedCache x = new SteppedCache(3, 1);
        Drive.set(x, Keys.nth(0, 5, 6), 1);
        Drive.set(x, Keys.nth(0, 0, 1), 1);
        Drive.set(x, Keys.nth(1, 0, 1), 1);
        x.write(0, Keys.nth(2, 0, 1), 1, 0, 0);
        Check.same("look-up, eviction and path", x.work(50), 3);
        Check.same("NO ROOM", x.outcome(), 6);
        Check.same("the eviction stays", x.count(0), 2);
        Check.same("no token was given", x.count(9), 3);
        Check.same("a write can begin after it", Drive.write(x, Drive.SET, Keys.nth(0, 5, 6), 1, 0, 0), 1);
    }

    private static void expiredKeyIsRemovedBeforeFullnessCounts() {
        SteppedCache x = new SteppedCache(1, 1);
        Drive.setFor(x, 1, 10, 1);
        x.pass(1);
        x.write(0, 1, 20, 0, 0);
        Check.same("look-up, path and insert", x.work(50), 3);
        Check.same("no eviction", x.count(1), 0);
    }

    private static void firstBucketFirst() {
        SteppedCache x = new SteppedCache(12, 2);
        for (int n = 0; n < 4; n++) {
            int key = Keys.nth(n, 6, 2);
            Drive.set(x, key, 1);
            Check.same("place of key " + n, x.where(key), n < 2 ? 12 + n : 4 + n - 2);
        }
        Check.same("no moves", x.count(2), 0);
        Drive.delete(x, Keys.nth(0, 6, 2));
        Drive.set(x, Keys.nth(4, 6, 2), 1);
        Check.same("the place that became free", x.where(Keys.nth(4, 6, 2)), 12);
    }

    private static void firstBucketBeforeLesserPlace() {
        SteppedCache x = new SteppedCache(12, 1);
        int inFirst = Keys.nth(0, 5, 7);
        int inSecond = Keys.nth(0, 1, 3);
        Drive.set(x, inFirst, 1);
        Drive.set(x, inSecond, 1);
        int key = Keys.nth(0, 5, 1);
        Drive.set(x, key, 1);
        Check.same("the key is in its first bucket", x.where(key), 5);
        Check.same("the item of the first bucket has moved", x.where(inFirst), 7);
        Check.same("the item of the second one has not", x.where(inSecond), 1);
    }

    private static void shorterPathBeforeFirstBucket() {
        SteppedCache x = new SteppedCache(12, 1);
        int inFirst = Keys.nth(0, 0, 2);
        int behindIt = Keys.nth(0, 2, 4);
        int inSecond = Keys.nth(0, 1, 3);
        Drive.set(x, inFirst, 1);
        Drive.set(x, behindIt, 1);
        Drive.set(x, inSecond, 1);
        int key = Keys.nth(0, 0, 1);
        x.write(0, key, 1, 0, 0);
        Check.same("one move", x.work(50), 5);
        Check.same("the key is in its second bucket", x.where(key), 1);
        Check.same("the item there has moved", x.where(inSecond), 3);
        Check.same("moves", x.count(2), 1);
    }

    private static void lesserPlacesFirst() {
        SteppedCache x = new SteppedCache(20, 2);
        int[] blockers = {Keys.nth(0, 0, 3), Keys.nth(0, 0, 2), Keys.nth(0, 1, 6), Keys.nth(1, 1, 6)};
        for (int key : blockers) {
            Drive.set(x, key, 1);
        }
        int key = Keys.nth(0, 0, 1);
        Drive.set(x, key, 1);
        Check.same("the lesser p0", x.where(key), 0);
        Check.same("its item in the lesser p1", x.where(blockers[0]), 6);
    }

    private static void moveTakesTwoSteps() {
        SteppedCache x = new SteppedCache(12, 1);
        int a = Keys.nth(0, 0, 2, Keys.ANY, 1);
        int b = Keys.nth(0, 2, 3, Keys.ANY, 2);
        int c = Keys.nth(0, 1, 0, Keys.ANY, 0);
        Drive.set(x, a, 1);
        Drive.set(x, b, 1);
        Drive.set(x, c, 1);
        int key = Keys.nth(0, 0, 1, Keys.ANY, 3);
        x.write(0, key, 1, 0, 0);
        x.work(2);
        places(x, "after the path", 0, 2, 1, -1);
        x.work(1);
        places(x, "b in both places", 0, 2, 1, 1);
        Check.same("version of b", x.version(2), 1);
        Check.same("b is found in its first bucket", x.where(b), 2);
        Check.same("no move is done yet", x.count(2), 0);
        x.work(1);
        places(x, "b has moved", 0, 2, -1, 1);
        Check.same("version of b", x.version(2), 2);
        Check.same("a move is done", x.count(2), 1);
        x.work(1);
        places(x, "a in both places", 0, 2, 0, 1);
        Check.same("version of a", x.version(1), 1);
        x.work(1);
        places(x, "a has moved", -1, 2, 0, 1);
        Check.same("version of a", x.version(1), 2);
        Check.same("under way", x.outcome(), 0);
        Check.same("the last step", x.work(50), 1);
        places(x, "at the end", 3, 2, 0, 1);
        Check.same("version of the new key", x.version(3), 0);
        Check.same("moves", x.count(2), 2);
    }

    private static void places(SteppedCache x, String when, int... items) {
        for (int p = 0; p < items.length; p++) {
            Check.same(when + ": at(" + p + ")", x.at(p), items[p]);
        }
    }

    /** Buckets 0, 2, 3, .. each hold an item whose other bucket is the next one; bucket 1 leads back to 0. */
    private static SteppedCache chain(int length) {
        SteppedCache x = new SteppedCache(32, 1);
        Drive.set(x, Keys.nth(0, 0, 2), 1);
        Drive.set(x, Keys.nth(0, 1, 0), 1);
        for (int bucket = 2; bucket <= length; bucket++) {
            Drive.set(x, Keys.nth(0, bucket, bucket + 1), 1);
        }
        return x;
    }

    private static void fourMovesAreTheMost() {
        for (int length = 1; length <= 6; length++) {
            SteppedCache x = chain(length);
            int key = Keys.nth(0, 0, 1);
            x.write(0, key, 1, 0, 0);
            Check.same("steps with " + length + " moves", x.work(50), length <= 4 ? 3 + 2 * length : 2);
            Check.same("outcome with " + length + " moves", x.outcome(), length <= 4 ? 1 : 6);
            Check.same("moves of " + length, x.count(2), length <= 4 ? length : 0);
            Check.same("place", x.where(key), length <= 4 ? 0 : -1);
        }
    }

    private static SteppedCache filled(int items) {
        SteppedCache x = new SteppedCache(items, 4);
        for (int n = 0; n < items; n++) {
            Drive.set(x, Keys.spread(n), n);
        }
        Check.same("used items", x.count(0), items);
        return x;
    }

    private static void oneFreeItemIsEnough() {
        for (int items : new int[] {1, 2, 5, 31}) {
            SteppedCache x = filled(items);
            Drive.delete(x, Keys.spread(items - 1));
            x.write(Drive.SET, Keys.spread(items - 1), 1, 0, 0);
            Check.same("steps with one free item of " + items, x.work(50), 3);
            Check.same("evictions", x.count(1), 0);
            Check.same("hand", x.count(8), 0);
            x.write(Drive.SET, Keys.spread(items), 1, 0, 0);
            Check.same("steps with no free item of " + items, x.work(50), 4);
            Check.same("evictions", x.count(1), 1);
            Check.same("hand", x.count(8), 1 % items);
        }
    }

    private static void onlyInsertEvicts() {
        SteppedCache x = filled(3);
        View before = View.of(x, 3, 4);
        Drive.write(x, Drive.REPLACE, Keys.spread(3), 1, 0, 0);
        Drive.write(x, Drive.CAS, Keys.spread(3), 1, 0, 1);
        Drive.write(x, Drive.DELETE, Keys.spread(3), 1, 0, 0);
        Drive.write(x, Drive.ADD, Keys.spread(2), 1, 0, 0);
        View.of(x, 3, 4).mustBe("writes that do not insert", before, "outcome()", "count(5)");
        Drive.set(x, Keys.spread(2), 1);
        Check.same("evictions by a CHANGE", x.count(1), 0);
        Check.same("ADD", Drive.write(x, Drive.ADD, Keys.spread(3), 1, 0, 0), 1);
        Check.same("evictions by an ADD", x.count(1), 1);
    }

    private static void handGoesRound() {
        for (int items : new int[] {1, 2, 3, 12, 32}) {
            SteppedCache x = filled(items);
            for (int n = 0; n <= items; n++) {
                int i = n % items;
                int old = x.item(i, 0);
                int key = Keys.nth(8 + n, Keys.first(old), Keys.second(old));
                x.write(Drive.SET, key, 1, 0, 0);
                x.work(2);
                Check.no("item " + i + " of " + items + " is evicted", x.used(i));
                Check.same("used items", x.count(0), items - 1);
                Check.same("hand after item " + i + " of " + items, x.count(8), (i + 1) % items);
                x.work(2);
                Check.same("the new key's item", x.item(i, 0), key);
            }
            Check.same("evictions", x.count(1), items + 1);
        }
    }

    private static void handPassesTheLastNumber() {
        SteppedCache x = filled(3);
        Drive.set(x, Keys.spread(3), 1);
        Drive.set(x, Keys.spread(4), 1);
        Check.same("hand before", x.count(8), 2);
        Drive.read(x, 0, Keys.spread(2));
        Drive.read(x, 0, Keys.spread(4));
        x.write(Drive.SET, Keys.spread(5), 1, 0, 0);
        x.work(2);
        Check.no("after the last one item 0 is evicted", x.used(0));
        Check.same("hand", x.count(8), 1);
        Check.same("the bit of the last one is off", x.item(2, 4), 0);
        Check.same("the bit behind stays", x.item(1, 4), 1);
    }

    private static void allBitsFromAnyHand() {
        for (int hand = 0; hand < 4; hand++) {
            SteppedCache x = filled(4);
            for (int n = 0; n < hand; n++) {
                Drive.set(x, Keys.spread(4 + n), 1);
            }
            Check.same("hand before", x.count(8), hand);
            for (int i = 0; i < 4; i++) {
                Drive.read(x, 0, x.item(i, 0));
                Check.same("bit", x.item(i, 4), 1);
            }
            x.write(Drive.SET, Keys.spread(9), 1, 0, 0);
            x.work(2);
            for (int i = 0; i < 4; i++) {
                Check.same("used(" + i + ") with the hand " + hand, x.used(i) ? 1 : 0, i == hand ? 0 : 1);
                Check.same("bit of " + i, x.item(i, 4), 0);
            }
            Check.same("hand", x.count(8), (hand + 1) % 4);
            Check.same("evictions", x.count(1), hand + 1);
        }
    }

    private static void bitsOfTheMomentCount() {
        SteppedCache x = filled(3);
        x.write(Drive.SET, Keys.spread(3), 1, 0, 0);
        Drive.read(x, 0, Keys.spread(0));
        x.work(1);
        Drive.read(x, 0, Keys.spread(1));
        x.work(1);
        Check.yes("read before the first step", x.used(0));
        Check.yes("read after the first step", x.used(1));
        Check.no("not read", x.used(2));
    }

    private static void expiredOnesAreUsed() {
        SteppedCache x = new SteppedCache(3, 4);
        Drive.set(x, Keys.spread(0), 1);
        Drive.setFor(x, Keys.spread(1), 1, 1);
        Drive.setFor(x, Keys.spread(2), 1, 1);
        x.pass(1);
        x.write(Drive.SET, Keys.spread(3), 1, 0, 0);
        Check.same("steps", x.work(50), 4);
        Check.same("the item of the hand is evicted, expired or not", x.item(0, 0), Keys.spread(3));
        Check.yes("an expired one stays", x.used(1));
        Check.yes("another expired one stays", x.used(2));
    }

    private static void bitsOfExpiredOnesCount() {
        SteppedCache x = new SteppedCache(2, 4);
        Drive.setFor(x, Keys.spread(0), 1, 1);
        Drive.set(x, Keys.spread(1), 1);
        Drive.read(x, 0, Keys.spread(0));
        x.pass(1);
        x.write(Drive.SET, Keys.spread(2), 1, 0, 0);
        x.work(2);
        Check.yes("an expired one with its bit on is passed over", x.used(0));
        Check.same("its bit is off", x.item(0, 4), 0);
        Check.no("the next one is evicted", x.used(1));
    }

    private static void lowestFreeItem() {
        SteppedCache x = filled(5);
        for (int n : new int[] {3, 1, 4}) {
            Drive.delete(x, Keys.spread(n));
        }
        for (int i : new int[] {1, 3, 4}) {
            Drive.set(x, Keys.spread(10 + i), 1);
            Check.same("the free item with the lowest number", x.item(i, 0), Keys.spread(10 + i));
        }
    }

    /** Of one bucket after the other: the lowest free slot, whichever slots are free. */
    private static void lowestFreeSlot() {
        int key = Keys.nth(9, 6, 2);
        for (int free = 0; free < 256; free++) {
            SteppedCache x = new SteppedCache(32, 4);
            for (int n = 0; n < 8; n++) {
                Drive.set(x, Keys.nth(n, 6, 2), n);
            }
            for (int n = 0; n < 8; n++) {
                if ((free >> n & 1) == 1) {
                    Drive.delete(x, Keys.nth(n, 6, 2));
                }
            }
            int lowest = Integer.numberOfTrailingZeros(free);
            x.write(Drive.SET, key, 1, 0, 0);
            Check.same("steps with free slots " + free, x.work(50), free == 0 ? 2 : 3);
            Check.same("outcome", x.outcome(), free == 0 ? 6 : 1);
            Check.same("place with free slots " + free, x.where(key), free == 0 ? -1 : lowest < 4 ? 24 + lowest : 4 + lowest);
            Check.same("moves", x.count(2), 0);
        }
    }

    /** All paths of d moves over buckets of two slots, from the key's first and from its second bucket. */
    private static void chosenSlotsOfLongPaths() {
        for (int d = 1; d <= 5; d++) {
            for (int from = 0; from < 2; from++) {
                for (int code = 0; code < Math.pow(3, d); code++) {
                    chosenSlots(d, from, code);
                }
            }
        }
    }

    private static void chosenSlots(int d, int from, int code) {
        SteppedCache x = new SteppedCache(32, 2);
        int[] path = new int[d + 1];
        int[] keys = new int[d];
        int rest = code;
        for (int slot = 0; slot < 2; slot++) {
            Drive.set(x, Keys.nth(slot, 1 - from, from), 1);
        }
        for (int level = 0; level < d; level++) {
            int bucket = level == 0 ? from : CHAIN[level - 1];
            int lead = rest % 3;
            rest /= 3;
            for (int slot = 0; slot < 2; slot++) {
                boolean on = lead == BOTH_LEAD_ON || lead == (slot == 0 ? SLOT_0_LEADS_ON : SLOT_1_LEADS_ON);
                Drive.set(x, Keys.nth(slot, bucket, on ? CHAIN[level] : level == 0 ? 1 - from : level % 2), 1);
            }
            int chosen = lead == SLOT_1_LEADS_ON ? 1 : 0;
            path[level] = 2 * bucket + chosen;
            keys[level] = Keys.nth(chosen, bucket, CHAIN[level]);
        }
        path[d] = 2 * CHAIN[d - 1] + code % 2;
        if (code % 2 == 1) {
            Drive.set(x, Keys.nth(0, CHAIN[d - 1], 7), 1);
        }
        goesOver(x, "path of " + d + " from bucket " + from + ", code " + code, path, keys, Keys.nth(2, 0, 1));
    }

    private static void goesOver(SteppedCache x, String what, int[] path, int[] keys, int key) {
        x.write(Drive.SET, key, 1, 0, 0);
        if (keys.length > 4) {
            Check.same(what + ": steps", x.work(50), 2);
            Check.same(what + ": NO ROOM", x.outcome(), 6);
            return;
        }
        Check.same(what + ": steps", x.work(50), 3 + 2 * keys.length);
        Check.same(what + ": the key", x.where(key), path[0]);
        for (int k = 0; k < keys.length; k++) {
            Check.same(what + ": the item of p" + k, x.where(keys[k]), path[k + 1]);
        }
        Check.same(what + ": moves", x.count(2), keys.length);
    }

    /** At equal lengths p0 counts before p1, p1 before p2; the later places lead the other way here. */
    private static void earlierPlacesCountFirst() {
        SteppedCache x = new SteppedCache(32, 2);
        int[][] items = {{0, 5}, {0, 2}, {1, 4}, {1, 4}, {5, 7}, {5, 3}, {2, 6}, {2, 6}, {4, 3}, {4, 3}};
        set(x, items);
        goesOver(x, "p0 before p1", new int[] {0, 10, 14}, new int[] {Keys.nth(0, 0, 5), Keys.nth(0, 5, 7)}, Keys.nth(2, 0, 1));
        SteppedCache y = new SteppedCache(32, 2);
        set(y, new int[][] {{1, 2}, {1, 3}, {0, 7}, {0, 6}, {7, 5}, {7, 5}, {6, 5}, {6, 5}, {2, 4}, {2, 4}, {3, 4}, {3, 4}});
        goesOver(y, "the first bucket before lesser places", new int[] {2, 4, 8},
                new int[] {Keys.nth(0, 1, 2), Keys.nth(0, 2, 4)}, Keys.nth(2, 1, 0));
    }

    private static void set(SteppedCache x, int[][] buckets) {
        for (int n = 0; n < buckets.length; n++) {
            int same = n > 0 && buckets[n - 1][0] == buckets[n][0] && buckets[n - 1][1] == buckets[n][1] ? 1 : 0;
            Drive.set(x, Keys.nth(same, buckets[n][0], buckets[n][1]), 1);
        }
    }

    /** From the key's second bucket two moves are enough, from its first one three are needed. */
    private static void shorterPathFromTheSecondBucket() {
        SteppedCache x = new SteppedCache(32, 1);
        set(x, new int[][] {{0, 2}, {2, 3}, {3, 4}, {1, 5}, {5, 6}});
        goesOver(x, "the shorter path", new int[] {1, 5, 6}, new int[] {Keys.nth(0, 1, 5), Keys.nth(0, 5, 6)}, Keys.nth(0, 0, 1));
    }

    private static void noRoomChangesNothing() {
        SteppedCache x = new SteppedCache(12, 1);
        for (int bucket = 0; bucket < 8; bucket++) {
            Drive.setFor(x, Keys.nth(0, bucket, bucket < 7 ? bucket + 1 : 0), bucket, 5);
        }
        View before = View.of(x, 12, 1);
        for (int kind = 0; kind < 2; kind++) {
            for (int first = 0; first < 8; first++) {
                x.write(kind, Keys.nth(3, first, first ^ 5, Keys.ANY, first % 4), 9, 9, 9);
                Check.same("steps in a full table", x.work(50), 2);
                Check.same("NO ROOM in a full table", x.outcome(), 6);
            }
        }
        View.of(x, 12, 1).mustBe("NO ROOM", before, "outcome()", "count(5)");
    }

    /** Free places there are, but the items of the key's buckets lead only to each other. */
    private static void noRoomInACircle() {
        SteppedCache x = new SteppedCache(12, 1);
        set(x, new int[][] {{0, 2}, {2, 1}, {1, 0}});
        x.write(Drive.SET, Keys.nth(3, 0, 1), 9, 0, 0);
        Check.same("steps in a circle", x.work(50), 2);
        Check.same("NO ROOM in a circle", x.outcome(), 6);
        Drive.delete(x, Keys.nth(0, 2, 1));
        x.write(Drive.SET, Keys.nth(3, 0, 1), 9, 0, 0);
        Check.same("steps after a DELETE", x.work(50), 5);
        Check.same("STORED after a DELETE", x.outcome(), 1);
    }

    /** Both items are of one stripe, so its version grows by each of the four steps. */
    private static void versionsOfMovesOfOneStripe() {
        SteppedCache x = new SteppedCache(12, 1);
        Drive.set(x, Keys.nth(0, 0, 2, Keys.ANY, 2), 1);
        Drive.set(x, Keys.nth(0, 2, 3, Keys.ANY, 2), 1);
        Drive.set(x, Keys.nth(0, 1, 0, Keys.ANY, 0), 1);
        x.write(Drive.SET, Keys.nth(0, 0, 1, Keys.ANY, 2), 1, 0, 0);
        int[] versions = {0, 0, 1, 2, 3, 4, 4};
        int[] moves = {0, 0, 0, 1, 1, 2, 2};
        for (int n = 0; n < versions.length; n++) {
            Check.same("a step", x.work(1), 1);
            Check.same("version after step " + (n + 1), x.version(2), versions[n]);
            Check.same("moves after step " + (n + 1), x.count(2), moves[n]);
        }
        Check.same("STORED", x.outcome(), 1);
    }

    /** A moved item keeps all that it has; one that goes back to its first bucket is found there at once. */
    private static void movedItemsStayTheSame() {
        SteppedCache x = new SteppedCache(12, 1);
        int back = Keys.nth(1, 2, 0);
        Drive.set(x, Keys.nth(0, 2, 0), 1);
        Drive.setFor(x, back, 5, 9);
        Drive.read(x, 0, back);
        Drive.delete(x, Keys.nth(0, 2, 0));
        Drive.set(x, Keys.nth(0, 1, 0), 1);
        Check.same("in its second bucket", x.where(back), 0);
        x.write(Drive.SET, Keys.nth(0, 0, 1), 1, 0, 0);
        x.work(3);
        Check.same("in both buckets", x.at(0), x.at(2));
        Check.same("found in its first bucket", x.where(back), 2);
        x.work(1);
        Check.same("out of its second bucket", x.at(0), -1);
        x.work(50);
        int[] due = {back, 5, 2, 9, 1};
        for (int which = 0; which < due.length; which++) {
            Check.same("item(1, " + which + ")", x.item(1, which), due[which]);
        }
    }

    private static void insertStep() {
        SteppedCache x = new SteppedCache(12, 1);
        int key = Keys.nth(0, 4, 5, Keys.ANY, 3);
        x.pass(3);
        View before = View.of(x, 12, 1);
        x.write(Drive.ADD, key, -7, 8, 99);
        x.work(2);
        View.of(x, 12, 1).mustBe("before the last step", before, "outcome()");
        Check.same("the last step", x.work(2), 1);
        int[] due = {key, -7, 1, 11, 0};
        for (int which = 0; which < due.length; which++) {
            Check.same("item(0, " + which + ")", x.item(0, which), due[which]);
        }
        Check.yes("used(0)", x.used(0));
        Check.same("at(4)", x.at(4), 0);
        View.of(x, 12, 1).mustBe("after the last step", before, "outcome()", "at(4)", "used(0)", "count(0)", "count(9)",
                "item(0, 0)", "item(0, 1)", "item(0, 2)", "item(0, 3)");
    }
}
