/** Promises 1 and 10 to 17: a new object, the time, and all that can be looked at. */
public final class ViewTest {
    public static void main(String[] args) {
        newObjectIsEmpty();
        numberOfItems();
        numberOfWays();
        passMovesTime();
        whereFindsPlaces();
        whereFindsExpiredOnes();
        atShowsPlaces();
        itemShowsFields();
        usedShowsItems();
        versionShowsStripes();
        hashPutsPartsTogether();
        countsAtFirst();
        nearMissesAreCounted();
        expiredOnesRemovedAreCounted();
        Check.end();
    }

    private static void newObjectIsEmpty() {
        SteppedCache x = new SteppedCache(32, 4);
        for (int p = -1; p <= 32; p++) {
            Check.same("new at(" + p + ")", x.at(p), -1);
        }
        for (int i = -1; i <= 32; i++) {
            Check.no("new used(" + i + ")", x.used(i));
        }
        for (int stripe = 0; stripe < 4; stripe++) {
            Check.same("new version(" + stripe + ")", x.version(stripe), 0);
        }
        for (int r = 0; r < 3; r++) {
            Check.same("new state(" + r + ")", x.state(r), 0);
        }
        Check.same("new outcome()", x.outcome(), -1);
        Check.same("new where(0)", x.where(0), -1);
    }

    /** Sets keys until one is evicted: so many items there are. */
    private static int itemsOf(SteppedCache x) {
        for (int key = 0; key < 100; key++) {
            int before = x.count(0);
            Drive.write(x, Drive.SET, key, 1, 0, 0);
            if (x.count(1) == 1) {
                return before;
            }
        }
        return -1;
    }

    private static void numberOfItems() {
        int[] asked = {1, 2, 11, 12, 13, 0, 33, -1, Integer.MIN_VALUE, Integer.MAX_VALUE};
        int[] due = {1, 2, 11, 12, 13, 12, 12, 12, 12, 12};
        for (int n = 0; n < asked.length; n++) {
            Check.same("items for " + asked[n], itemsOf(new SteppedCache(asked[n], 4)), due[n]);
        }
        SteppedCache most = new SteppedCache(32, 4);
        for (int bucket = 0; bucket < 8; bucket++) {
            for (int slot = 0; slot < 4; slot++) {
                Drive.set(most, Keys.nth(slot, bucket, bucket ^ 1), slot);
            }
        }
        Check.same("32 items are used", most.count(0), 32);
        Check.yes("the last of 32 items is used", most.used(31));
        Check.same("32 items without eviction", most.count(1), 0);
    }

    private static void numberOfWays() {
        int[] asked = {1, 2, 3, 4, 0, 5, -1, Integer.MIN_VALUE, Integer.MAX_VALUE};
        int[] due = {1, 2, 3, 4, 2, 2, 2, 2, 2};
        for (int n = 0; n < asked.length; n++) {
            SteppedCache x = new SteppedCache(32, asked[n]);
            int key = Keys.nth(0, 7, 6);
            Drive.set(x, key, 1);
            Check.same("first place of bucket 7 for ways " + asked[n], x.where(key), 7 * due[n]);
            for (int slot = 1; slot < due[n]; slot++) {
                Drive.set(x, Keys.nth(slot, 7, 6), 1);
            }
            Check.same("last place for ways " + asked[n], x.at(8 * due[n] - 1), due[n] - 1);
            Check.same("beyond the last place", x.at(8 * due[n]), -1);
            int more = Keys.nth(due[n], 7, 6);
            Drive.set(x, more, 1);
            Check.same("second bucket for ways " + asked[n], x.where(more), 6 * due[n]);
        }
    }

    private static void passMovesTime() {
        SteppedCache x = new SteppedCache(4, 1);
        int[] wrong = {0, -1, 1001, Integer.MIN_VALUE, Integer.MAX_VALUE};
        for (int n : wrong) {
            Check.no("pass(" + n + ")", x.pass(n));
        }
        Check.same("time after wrong ones", x.count(7), 0);
        Check.yes("pass(1)", x.pass(1));
        Check.yes("pass(1000)", x.pass(1000));
        Check.yes("pass(7)", x.pass(7));
        Check.same("time", x.count(7), 1008);
    }

    private static void whereFindsPlaces() {
        SteppedCache x = new SteppedCache(12, 2);
        int a = Keys.nth(0, 3, 5);
        int b = Keys.nth(1, 3, 5);
        int c = Keys.nth(2, 3, 5);
        Check.same("where before", x.where(a), -1);
        Drive.set(x, a, 1);
        Drive.set(x, b, 1);
        Drive.set(x, c, 1);
        Check.same("where in slot 0", x.where(a), 6);
        Check.same("where in slot 1", x.where(b), 7);
        Check.same("where in the second bucket", x.where(c), 10);
        Check.same("where of a key never set", x.where(Keys.nth(3, 3, 5)), -1);
        Drive.delete(x, a);
        Check.same("where after DELETE", x.where(a), -1);
    }

    private static void whereFindsExpiredOnes() {
        SteppedCache x = new SteppedCache(12, 2);
        int key = Keys.nth(0, 3, 5);
        Drive.setFor(x, key, 1, 2);
        x.pass(500);
        Check.same("where of an expired one", x.where(key), 6);
        Check.yes("an expired one is still used", x.used(0));
        Check.same("expiry", x.item(0, 3), 2);
    }

    private static void atShowsPlaces() {
        SteppedCache x = new SteppedCache(12, 3);
        Drive.set(x, Keys.nth(0, 0, 1), 1);
        Drive.set(x, Keys.nth(0, 7, 6), 1);
        Check.same("at(0)", x.at(0), 0);
        Check.same("at(21)", x.at(21), 1);
        int[] none = {1, 20, 22, 23, 24, -1, Integer.MIN_VALUE, Integer.MAX_VALUE};
        for (int p : none) {
            Check.same("at(" + p + ")", x.at(p), -1);
        }
    }

    private static void itemShowsFields() {
        SteppedCache x = new SteppedCache(4, 2);
        x.pass(5);
        Drive.set(x, 7, 70);
        Drive.setFor(x, -9, -90, 1000);
        Check.same("reading", Drive.read(x, 0, -9), 7);
        int[] due = {-9, -90, 2, 1005, 1};
        for (int which = 0; which < 5; which++) {
            Check.same("item(1, " + which + ")", x.item(1, which), due[which]);
        }
        Check.same("expiry for life 0", x.item(0, 3), 0);
        Check.same("bit without reading", x.item(0, 4), 0);
        int[] wrong = {-1, 5, Integer.MIN_VALUE, Integer.MAX_VALUE};
        for (int which : wrong) {
            Check.same("item(1, " + which + ")", x.item(1, which), 0);
        }
        int[] noItem = {-1, 4, 32, Integer.MIN_VALUE, Integer.MAX_VALUE};
        for (int i : noItem) {
            Check.same("item(" + i + ", 0)", x.item(i, 0), 0);
        }
        Drive.delete(x, -9);
        for (int which = 0; which < 5; which++) {
            Check.same("freed item(1, " + which + ")", x.item(1, which), 0);
        }
    }

    private static void usedShowsItems() {
        SteppedCache x = new SteppedCache(3, 4);
        Drive.set(x, 1, 1);
        Drive.set(x, 2, 1);
        Drive.set(x, 3, 1);
        Drive.delete(x, 2);
        Check.yes("used(0)", x.used(0));
        Check.no("used(1) after DELETE", x.used(1));
        Check.yes("used(2)", x.used(2));
        int[] noItem = {-1, 3, 32, Integer.MIN_VALUE, Integer.MAX_VALUE};
        for (int i : noItem) {
            Check.no("used(" + i + ")", x.used(i));
        }
        Drive.set(x, 4, 1);
        Check.same("the lowest free item is taken", x.item(1, 0), 4);
    }

    private static void versionShowsStripes() {
        int[] wrong = {-1, 4, Integer.MIN_VALUE, Integer.MAX_VALUE};
        for (int stripe : wrong) {
            Check.same("version(" + stripe + ")", new SteppedCache(1, 1).version(stripe), -1);
        }
        for (int stripe = 0; stripe < 4; stripe++) {
            SteppedCache x = new SteppedCache(4, 2);
            int key = Keys.nth(0, 2, 3, Keys.ANY, stripe);
            Drive.set(x, key, 1);
            Check.same("version after INSERT", x.version(stripe), 0);
            Drive.set(x, key, 2);
            Check.same("version after CHANGE", x.version(stripe), 2);
            Drive.delete(x, key);
            for (int s = 0; s < 4; s++) {
                Check.same("version(" + s + ") after DELETE", x.version(s), s == stripe ? 4 : 0);
            }
        }
    }

    private static void hashPutsPartsTogether() {
        SteppedCache x = new SteppedCache(1, 1);
        int[] keys = {0, 1, 2, 3, 12, -1, -2, Integer.MIN_VALUE, Integer.MAX_VALUE, 32768, 65536, 123456789, -987654321};
        int[] due = {8, 3440, 2729, 1986, 1905, 1946, 251, 3622, 449, 340, 1768, 2388, 1275};
        for (int n = 0; n < keys.length; n++) {
            Check.same("hash(" + keys[n] + ")", x.hash(keys[n]), due[n]);
        }
        for (int n = 0; n < 400; n++) {
            int key = n * 715827881;
            Check.same("hash(" + key + ")", x.hash(key),
                    Keys.first(key) + 8 * Keys.second(key) + 64 * Keys.tag(key) + 1024 * Keys.stripe(key));
        }
    }

    private static void countsAtFirst() {
        SteppedCache x = new SteppedCache(4, 2);
        for (int which = 0; which < 10; which++) {
            Check.same("new count(" + which + ")", x.count(which), 0);
        }
        int[] wrong = {-1, 10, Integer.MIN_VALUE, Integer.MAX_VALUE};
        for (int which : wrong) {
            Check.same("count(" + which + ")", x.count(which), -1);
        }
        Drive.set(x, 1, 1);
        Drive.set(x, 2, 1);
        Drive.set(x, 1, 2);
        Check.same("used items", x.count(0), 2);
        Check.same("latest token", x.count(9), 3);
        Drive.delete(x, 2);
        Check.same("used items after DELETE", x.count(0), 1);
        Check.same("latest token after DELETE", x.count(9), 3);
    }

    private static void nearMissesAreCounted() {
        SteppedCache x = new SteppedCache(12, 4);
        int a = Keys.nth(0, 0, 1, 0, Keys.ANY);
        int b = Keys.nth(1, 0, 1, 0, Keys.ANY);
        int otherTag = Keys.nth(0, 0, 1, 7, Keys.ANY);
        int c = Keys.nth(2, 0, 1, 0, Keys.ANY);
        Drive.set(x, a, 1);
        Check.same("none in an empty bucket", x.count(5), 0);
        Drive.set(x, b, 1);
        Check.same("one passed over", x.count(5), 1);
        Drive.set(x, otherTag, 1);
        Check.same("another tag is none", x.count(5), 1);
        Drive.set(x, c, 1);
        Check.same("two passed over", x.count(5), 3);
        Check.same("found before the others", Drive.read(x, 0, a), 7);
        Check.same("what comes behind is not passed over", x.count(5), 3);
        Check.same("found as the last", Drive.read(x, 0, c), 7);
        Check.same("a reader passes two over", x.count(5), 5);
        x.where(c);
        x.where(Keys.nth(4, 0, 1, 0, Keys.ANY));
        Check.same("where counts none", x.count(5), 5);
        int fromOtherSide = Keys.nth(0, 1, 0, 0, Keys.ANY);
        Check.same("a reading of both buckets", Drive.read(x, 0, fromOtherSide), 8);
        Check.same("near misses in the second bucket", x.count(5), 8);
        Drive.write(x, Drive.DELETE, fromOtherSide, 0, 0, 0);
        Check.same("near misses of a DELETE", x.count(5), 11);
    }

    private static void expiredOnesRemovedAreCounted() {
        SteppedCache x = new SteppedCache(4, 2);
        for (int kind = 0; kind < 5; kind++) {
            Drive.setFor(x, 50 + kind, 1, 1);
            x.pass(1);
            Drive.write(x, kind, 50 + kind, 2, 0, x.count(9));
            Check.same("expired ones removed by kind " + kind, x.count(6), kind + 1);
            x.write(Drive.DELETE, 50 + kind, 0, 0, 0);
            x.work(50);
        }
        Drive.setFor(x, 1, 1, 1);
        x.pass(1);
        Drive.read(x, 0, 1);
        Drive.set(x, 2, 1);
        Check.same("a reader removes none", x.count(6), 5);
        SteppedCache one = new SteppedCache(1, 2);
        Drive.setFor(one, 1, 1, 1);
        one.pass(1);
        Drive.set(one, 2, 1);
        Check.same("an expired one is evicted", one.count(1), 1);
        Check.same("which is no removal for its expiry", one.count(6), 0);
    }
}
