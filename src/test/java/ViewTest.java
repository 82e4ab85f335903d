/** Promises 1 and 10 to 17: a new object, the time, and all that can be looked at. */
public final class ViewTest {
    public static void main(String[] args) {
        newObjectIsEmpty();
        numberOfItems();
        numberOfWays();
        wrongItemsWithRightWays();
        passMovesTime();
        passChangesTheTimeAlone();
        longestTime();
        whereFindsPlaces();
        whereFindsExpiredOnes();
        atShowsPlaces();
        itemShowsFields();
        usedShowsItems();
        versionShowsStripes();
        hashPutsPartsTogether();
        countsAtFirst();
        nearMissesAreCounted();
        expiredOnesRemovedAreCounted();
        Check.end();
    }

    private static void newObjectIsEmpty() {
        SteppedCache x = new SteppedCache(32, 4);
        for (int p = -1; p <= 32; p++) {
            Check.same("new at(" + p + ")", x.at(p), -1);
        }
        for (int i = -1; i <= 32; i++) {
            Check.no("new used(" + i + ")", x.used(i));
        }
        for (int stripe = 0; stripe < 4; stripe++) {
            Check.same("new version(" + stripe + ")", x.version(stripe), 0);
        }
        for (int r = 0; r < 3; r++) {
            Check.same("new state(" + r + ")", x.state(r), 0);
        }
        Check.same("new outcome()", x.outcome(), -1);
        Check.same("new where(0)", x.where(0), -1);
    }

    /** So many items there are when so many keys are set without an eviction and one more evicts the first. */
    private static void hasItems(int asked, int due) {
        SteppedCache x = new SteppedCache(asked, 4);
        for (int n = 0; n < due; n++) {
            Drive.set(x, Keys.spread(n), n);
        }
        Check.same("used items for " + asked, x.count(0), due);
        Check.yes("the last item for " + asked, x.used(due - 1));
        Check.same("evictions for " + asked, x.count(1), 0);
        Drive.write(x, Drive.SET, Keys.spread(due), due, 0, 0);
        Check.same("evictions with one key more for " + asked, x.count(1), 1);
        Check.no("no item beyond for " + asked, x.used(due));
        Check.same("the first key for " + asked, x.where(Keys.spread(0)), -1);
    }

    private static void numberOfItems() {
        for (int items = 1; items <= 32; items++) {
            hasItems(items, items);
        }
        for (int items : Numbers.beyond(1, 32)) {
            hasItems(items, 12);
        }
    }

    private static void hasWays(int asked, int due) {
        SteppedCache x = new SteppedCache(32, asked);
        for (int slot = 0; slot < due; slot++) {
            Drive.set(x, Keys.nth(slot, 7, 6), 1);
            Check.same("slot " + slot + " of bucket 7 for ways " + asked, x.where(Keys.nth(slot, 7, 6)), 7 * due + slot);
        }
        Check.same("the last place for ways " + asked, x.at(8 * due - 1), due - 1);
        Check.same("beyond the last place for ways " + asked, x.at(8 * due), -1);
        Drive.set(x, Keys.nth(due, 7, 6), 1);
        Check.same("second bucket for ways " + asked, x.where(Keys.nth(due, 7, 6)), 6 * due);
    }

    private static void numberOfWays() {
        for (int ways = 1; ways <= 4; ways++) {
            hasWays(ways, ways);
        }
        for (int ways : Numbers.beyond(1, 4)) {
            hasWays(ways, 2);
        }
    }

    /** One number is right and the other wrong: each is looked at by itself. */
    private static void wrongItemsWithRightWays() {
        SteppedCache x = new SteppedCache(0, 1);
        Drive.set(x, Keys.nth(0, 7, 6), 1);
        Check.same("ways stay 1", x.where(Keys.nth(0, 7, 6)), 7);
        SteppedCache y = new SteppedCache(1, 0);
        Drive.set(y, Keys.nth(0, 7, 6), 1);
        Drive.set(y, Keys.nth(1, 7, 6), 1);
        Check.same("items stay 1", y.count(0), 1);
        Check.same("ways are 2", y.where(Keys.nth(1, 7, 6)), 14);
    }

    private static void passMovesTime() {
        SteppedCache x = new SteppedCache(4, 1);
        for (int n : Numbers.beyond(1, 1000)) {
            Check.no("pass(" + n + ")", x.pass(n));
            Check.same("time after pass(" + n + ")", x.count(7), 0);
        }
        int time = 0;
        for (int n : new int[] {1, 2, 7, 999, 1000, 1}) {
            Check.yes("pass(" + n + ")", x.pass(n));
            time += n;
            Check.same("time after pass(" + n + ")", x.count(7), time);
        }
    }

    /** The time may grow at any time, and nothing else changes by it. */
    private static void passChangesTheTimeAlone() {
        for (Situation situation : Situation.all()) {
            SteppedCache x = situation.make();
            View before = View.of(x, Situation.ITEMS, Situation.WAYS);
            int time = x.count(7);
            Check.yes(situation.name + ", pass(1000)", x.pass(1000));
            Check.same(situation.name + ", time", x.count(7), time + 1000);
            View.of(x, Situation.ITEMS, Situation.WAYS).mustBe(situation.name + ", pass(1000)", before, "count(7)");
        }
    }

    /** As many calls as there may be, each with the greatest number. */
    private static void longestTime() {
        SteppedCache x = new SteppedCache(4, 1);
        for (int n = 0; n < 505; n++) {
            x.pass(1000);
        }
        Drive.setFor(x, 1, 1, 1000);
        Check.same("the time", x.count(7), 505_000);
        Check.same("the expiry", x.item(0, 3), 506_000);
    }

    private static void whereFindsPlaces() {
        SteppedCache x = new SteppedCache(12, 2);
        int a = Keys.nth(0, 3, 5);
        int b = Keys.nth(1, 3, 5);
        int c = Keys.nth(2, 3, 5);
        Check.same("where before", x.where(a), -1);
        Drive.set(x, a, 1);
        Drive.set(x, b, 1);
        Drive.set(x, c, 1);
        Check.same("where in slot 0", x.where(a), 6);
        Check.same("where in slot 1", x.where(b), 7);
        Check.same("where in the second bucket", x.where(c), 10);
        Check.same("where of a key never set", x.where(Keys.nth(3, 3, 5)), -1);
        Drive.delete(x, a);
        Check.same("where after DELETE", x.where(a), -1);
    }

    private static void whereFindsExpiredOnes() {
        SteppedCache x = new SteppedCache(12, 2);
        int key = Keys.nth(0, 3, 5);
        Drive.setFor(x, key, 1, 2);
        x.pass(500);
        Check.same("where of an expired one", x.where(key), 6);
        Check.yes("an expired one is still used", x.used(0));
        Check.same("expiry", x.item(0, 3), 2);
    }

    private static void atShowsPlaces() {
        SteppedCache x = new SteppedCache(12, 3);
        Drive.set(x, Keys.nth(0, 0, 1), 1);
        Drive.set(x, Keys.nth(0, 7, 6), 1);
        Check.same("at(0)", x.at(0), 0);
        Check.same("at(21)", x.at(21), 1);
        int[] none = {1, 20, 22, 23, 24, -1, Integer.MIN_VALUE, Integer.MAX_VALUE};
        for (int p : none) {
            Check.same("at(" + p + ")", x.at(p), -1);
        }
    }

    private static void itemShowsFields() {
        SteppedCache x = new SteppedCache(4, 2);
        x.pass(5);
        Drive.set(x, 7, 70);
        Drive.setFor(x, -9, -90, 1000);
        Check.same("reading", Drive.read(x, 0, -9), 7);
        int[] due = {-9, -90, 2, 1005, 1};
        for (int which = 0; which < 5; which++) {
            Check.same("item(1, " + which + ")", x.item(1, which), due[which]);
        }
        Check.same("expiry for life 0", x.item(0, 3), 0);
        Check.same("bit without reading", x.item(0, 4), 0);
        int[] wrong = {-1, 5, Integer.MIN_VALUE, Integer.MAX_VALUE};
        for (int which : wrong) {
            Check.same("item(1, " + which + ")", x.item(1, which), 0);
        }
        int[] noItem = {-1, 4, 32, Integer.MIN_VALUE, Integer.MAX_VALUE};
        for (int i : noItem) {
            Check.same("item(" + i + ", 0)", x.item(i, 0), 0);
        }
        Drive.delete(x, -9);
        for (int which = 0; which < 5; which++) {
            Check.same("freed item(1, " + which + ")", x.item(1, which), 0);
        }
    }

    private static void usedShowsItems() {
        SteppedCache x = new SteppedCache(3, 4);
        Drive.set(x, 1, 1);
        Drive.set(x, 2, 1);
        Drive.set(x, 3, 1);
        Drive.delete(x, 2);
        Check.yes("used(0)", x.used(0));
        Check.no("used(1) after DELETE", x.used(1));
        Check.yes("used(2)", x.used(2));
        int[] noItem = {-1, 3, 32, Integer.MIN_VALUE, Integer.MAX_VALUE};
        for (int i : noItem) {
            Check.no("used(" + i + ")", x.used(i));
        }
        Drive.set(x, 4, 1);
        Check.same("the lowest free item is taken", x.item(1, 0), 4);
    }

    private static void versionShowsStripes() {
        int[] wrong = {-1, 4, Integer.MIN_VALUE, Integer.MAX_VALUE};
        for (int stripe : wrong) {
            Check.same("version(" + stripe + ")", new SteppedCache(1, 1).version(stripe), -1);
        }
        for (int stripe = 0; stripe < 4; stripe++) {
            SteppedCache x = new SteppedCache(4, 2);
            int key = Keys.nth(0, 2, 3, Keys.ANY, stripe);
            Drive.set(x, key, 1);
            Check.same("version after INSERT", x.version(stripe), 0);
            Drive.set(x, key, 2);
            Check.same("version after CHANGE", x.version(stripe), 2);
            Drive.delete(x, key);
            for (int s = 0; s < 4; s++) {
                Check.same("version(" + s + ") after DELETE", x.version(s), s == stripe ? 4 : 0);
            }
        }
    }

    private static void hashPutsPartsTogether() {
        SteppedCache x = new SteppedCache(1, 1);
        int[] keys = {0, 1, 2, 3, 12, -1, -2, Integer.MIN_VALUE, Integer.MAX_VALUE, 32768, 65536, 123456789, -987654321};
        int[] due = {8, 3440, 2729, 1986, 1905, 1946, 251, 3622, 449, 340, 1768, 2388, 1275};
        for (int n = 0; n < keys.length; n++) {
            Check.same("hash(" + keys[n] + ")", x.hash(keys[n]), due[n]);
        }
        for (int n = 0; n < 400; n++) {
            int key = n * 715827881;
            Check.same("hash(" + key + ")", x.hash(key),
                    Keys.first(key) + 8 * Keys.second(key) + 64 * Keys.tag(key) + 1024 * Keys.stripe(key));
        }
    }

    private static void countsAtFirst() {
        SteppedCache x = new SteppedCache(4, 2);
        for (int which = 0; which < 10; which++) {
            Check.same("new count(" + which + ")", x.count(which), 0);
        }
        int[] wrong = {-1, 10, Integer.MIN_VALUE, Integer.MAX_VALUE};
        for (int which : wrong) {
            Check.same("count(" + which + ")", x.count(which), -1);
        }
        Drive.set(x, 1, 1);
        Drive.set(x, 2, 1);
        Drive.set(x, 1, 2);
        Check.same("used items", x.count(0), 2);
        Check.same("latest token", x.count(9), 3);
        Drive.delete(x, 2);
        Check.same("used items after DELETE", x.count(0), 1);
        Check.same("latest token after DELETE", x.count(9), 3);
    }

    private static void nearMissesAreCounted() {
        SteppedCache x = new SteppedCache(12, 4);
        int a = Keys.nth(0, 0, 1, 0, Keys.ANY);
        int b = Keys.nth(1, 0, 1, 0, Keys.ANY);
        int otherTag = Keys.nth(0, 0, 1, 7, Keys.ANY);
        int c = Keys.nth(2, 0, 1, 0, Keys.ANY);
        Drive.set(x, a, 1);
        Check.same("none in an empty bucket", x.count(5), 0);
        Drive.set(x, b, 1);
        Check.same("one passed over", x.count(5), 1);
        Drive.set(x, otherTag, 1);
        Check.same("another tag is none", x.count(5), 1);
        Drive.set(x, c, 1);
        Check.same("two passed over", x.count(5), 3);
        Check.same("found before the others", Drive.read(x, 0, a), 7);
        Check.same("what comes behind is not passed over", x.count(5), 3);
        Check.same("found as the last", Drive.read(x, 0, c), 7);
        Check.same("a reader passes two over", x.count(5), 5);
        x.where(c);
        x.where(Keys.nth(4, 0, 1, 0, Keys.ANY));
        Check.same("where counts none", x.count(5), 5);
        int fromOtherSide = Keys.nth(0, 1, 0, 0, Keys.ANY);
        Check.same("a reading of both buckets", Drive.read(x, 0, fromOtherSide), 8);
        Check.same("near misses in the second bucket", x.count(5), 8);
        Drive.write(x, Drive.DELETE, fromOtherSide, 0, 0, 0);
        Check.same("near misses of a DELETE", x.count(5), 11);
    }

    private static void expiredOnesRemovedAreCounted() {
        SteppedCache x = new SteppedCache(4, 2);
        for (int kind = 0; kind < 5; kind++) {
            Drive.setFor(x, 50 + kind, 1, 1);
            x.pass(1);
            Drive.write(x, kind, 50 + kind, 2, 0, x.count(9));
            Check.same("expired ones removed by kind " + kind, x.count(6), kind + 1);
            x.write(Drive.DELETE, 50 + kind, 0, 0, 0);
            x.work(50);
        }
        Drive.setFor(x, 1, 1, 1);
        x.pass(1);
        Drive.read(x, 0, 1);
        Drive.set(x, 2, 1);
        Check.same("a reader removes none", x.count(6), 5);
        SteppedCache one = new SteppedCache(1, 2);
        Drive.setFor(one, 1, 1, 1);
        one.pass(1);
        Drive.set(one, 2, 1);
        Check.same("an expired one is evicted", one.count(1), 1);
        Check.same("which is no removal for its expiry", one.count(6), 0);
    }
}
