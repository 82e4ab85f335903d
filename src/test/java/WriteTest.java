/** Promises 2 to 4: how a write begins, goes on and ends; its first step for each kind, and CHANGE. */
public final class WriteTest {
    private static final int IN_FIRST = Keys.nth(0, 3, 5, Keys.ANY, 2);
    private static final int IN_SECOND = Keys.nth(1, 3, 5, Keys.ANY, 2);
    private static final int NOWHERE = Keys.nth(2, 3, 5, Keys.ANY, 2);

    public static void main(String[] args) {
        wrongWrites();
        writeDoesNoStep();
        wrongWork();
        outcomeFollowsTheLatestWrite();
        setAndAddAndReplace();
        cas();
        delete();
        expiredKeyCountsAsNotFound();
        changeTakesTwoSteps();
        changeUsesTheTimeOfItsLastStep();
        kindsWhenNotFound();
        kindsWhenFound();
        kindsWhenFoundButExpired();
        casTokens();
        tokenCountsForCasAlone();
        lives();
        tokensGrowByOne();
        timeOfTheFirstStepTellsWhatIsExpired();
        changeOfWhatExpiresMeanwhile();
        workEdges();
        Check.end();
    }

    private static void wrongWrites() {
        SteppedCache x = new SteppedCache(4, 2);
        int[] kinds = {-1, 5, Integer.MIN_VALUE, Integer.MAX_VALUE};
        for (int kind : kinds) {
            Check.no("write of kind " + kind, x.write(kind, 1, 1, 0, 0));
        }
        int[] lives = {-1, 1001, Integer.MIN_VALUE, Integer.MAX_VALUE};
        for (int life : lives) {
            for (int kind = 0; kind < 5; kind++) {
                Check.no("write of kind " + kind + " with life " + life, x.write(kind, 1, 1, life, 0));
            }
        }
        Check.same("no write was begun", x.outcome(), -1);
        Check.same("no step was done", x.work(50), 0);
        Check.yes("life 1000", x.write(0, 1, 10, 1000, 0));
        Check.no("a second write", x.write(0, 2, 20, 0, 0));
        x.work(1);
        Check.no("a second write later", x.write(4, 1, 20, 0, 0));
        Check.same("the rest of the first write", x.work(50), 2);
        Check.same("its key", x.item(0, 0), 1);
        Check.same("its value", x.item(0, 1), 10);
        Check.same("its expiry", x.item(0, 3), 1000);
        Check.no("a wrong write later", x.write(5, 1, 1, 0, 0));
        Check.same("outcome after a wrong write", x.outcome(), 1);
    }

    private static void writeDoesNoStep() {
        SteppedCache x = new SteppedCache(4, 2);
        Drive.set(x, 1, 10);
        x.write(4, 1, 0, 0, 0);
        Check.yes("nothing is done yet", x.used(0));
        Check.same("outcome before the first step", x.outcome(), 0);
        Check.same("near misses before the first step", x.count(5), 0);
    }

    private static void wrongWork() {
        SteppedCache x = new SteppedCache(4, 2);
        Check.same("work without a write", x.work(1), 0);
        x.write(0, 1, 10, 0, 0);
        int[] wrong = {0, -1, 51, Integer.MIN_VALUE, Integer.MAX_VALUE};
        for (int n : wrong) {
            Check.same("work(" + n + ")", x.work(n), 0);
        }
        Check.same("work(2)", x.work(2), 2);
        Check.no("not yet used", x.used(0));
        Check.same("work(50)", x.work(50), 1);
        Check.yes("used", x.used(0));
        Check.same("work at the end", x.work(50), 0);
    }

    private static void outcomeFollowsTheLatestWrite() {
        SteppedCache x = new SteppedCache(4, 2);
        Check.same("no write", x.outcome(), -1);
        x.write(0, 1, 10, 0, 0);
        Check.same("begun", x.outcome(), 0);
        x.work(2);
        Check.same("under way", x.outcome(), 0);
        x.work(1);
        Check.same("ended", x.outcome(), 1);
        x.write(4, 2, 10, 0, 0);
        Check.same("the next has begun", x.outcome(), 0);
        x.work(1);
        Check.same("the next has ended", x.outcome(), 4);
    }

    private static void setAndAddAndReplace() {
        SteppedCache x = new SteppedCache(4, 2);
        Check.same("REPLACE not found", Drive.write(x, Drive.REPLACE, 1, 10, 0, 0), 2);
        Check.same("nothing is stored", x.count(0), 0);
        Check.same("ADD not found", Drive.write(x, Drive.ADD, 1, 11, 0, 0), 1);
        Check.same("ADD found", Drive.write(x, Drive.ADD, 1, 12, 0, 0), 2);
        Check.same("the value stays", x.item(0, 1), 11);
        Check.same("the token stays", x.item(0, 2), 1);
        Check.same("REPLACE found", Drive.write(x, Drive.REPLACE, 1, 13, 7, 0), 1);
        Check.same("value of REPLACE", x.item(0, 1), 13);
        Check.same("token of REPLACE", x.item(0, 2), 2);
        Check.same("expiry of REPLACE", x.item(0, 3), 7);
        Check.same("SET found", Drive.write(x, Drive.SET, 1, 14, 0, 0), 1);
        Check.same("value of SET", x.item(0, 1), 14);
        Check.same("token of SET", x.item(0, 2), 3);
        Check.same("expiry of SET", x.item(0, 3), 0);
        Check.same("still one item", x.count(0), 1);
    }

    private static void cas() {
        SteppedCache x = new SteppedCache(4, 2);
        Check.same("CAS not found", Drive.write(x, Drive.CAS, 1, 10, 0, 0), 4);
        Drive.set(x, 1, 10);
        Check.same("CAS with another token", Drive.write(x, Drive.CAS, 1, 11, 0, 2), 3);
        Check.same("the value stays", x.item(0, 1), 10);
        Check.same("version stays", x.version(Keys.stripe(1)), 0);
        Check.same("CAS with its token", Drive.write(x, Drive.CAS, 1, 12, 0, 1), 1);
        Check.same("the value is new", x.item(0, 1), 12);
        Check.same("the token is new", x.item(0, 2), 2);
        Check.same("CAS with the old token", Drive.write(x, Drive.CAS, 1, 13, 0, 1), 3);
    }

    private static void delete() {
        SteppedCache x = new SteppedCache(4, 2);
        Check.same("DELETE not found", Drive.write(x, Drive.DELETE, 1, 0, 0, 0), 4);
        Drive.set(x, 1, 10);
        x.write(4, 1, 0, 0, 0);
        Check.same("DELETE takes one step", x.work(50), 1);
        Check.same("DELETE found", x.outcome(), 5);
        Check.no("the item is free", x.used(0));
        Check.same("the place is free", x.at(0), -1);
        Check.same("version grows by 2", x.version(Keys.stripe(1)), 2);
    }

    private static void expiredKeyCountsAsNotFound() {
        int[] outcomes = {1, 1, 2, 4, 4};
        for (int kind = 0; kind < 5; kind++) {
            for (int late = 0; late < 2; late++) {
                SteppedCache x = new SteppedCache(4, 2);
                Drive.setFor(x, 1, 10, 5);
                x.pass(5 + late);
                Check.same("expired, kind " + kind, Drive.write(x, kind, 1, 20, 0, 1), outcomes[kind]);
                Check.same("version after removal, kind " + kind, x.version(Keys.stripe(1)), 2);
                Check.same("used after kind " + kind, x.count(0), kind < 2 ? 1 : 0);
            }
        }
        SteppedCache x = new SteppedCache(4, 2);
        Drive.setFor(x, 1, 10, 5);
        x.pass(4);
        Check.same("not yet expired", Drive.write(x, Drive.ADD, 1, 20, 0, 0), 2);
    }

    private static void changeTakesTwoSteps() {
        SteppedCache x = new SteppedCache(4, 2);
        int stripe = Keys.stripe(1);
        Drive.setFor(x, 1, 10, 5);
        Drive.read(x, 0, 1);
        x.write(0, 1, 20, 7, 0);
        x.work(1);
        Check.same("value after the look-up", x.item(0, 1), 10);
        Check.same("version after the look-up", x.version(stripe), 0);
        x.work(1);
        Check.same("value after the first step", x.item(0, 1), 20);
        Check.same("token after the first step", x.item(0, 2), 1);
        Check.same("expiry after the first step", x.item(0, 3), 5);
        Check.same("version after the first step", x.version(stripe), 1);
        Check.same("outcome after the first step", x.outcome(), 0);
        x.work(1);
        Check.same("token after the second step", x.item(0, 2), 2);
        Check.same("expiry after the second step", x.item(0, 3), 7);
        Check.same("version after the second step", x.version(stripe), 2);
        Check.same("outcome after the second step", x.outcome(), 1);
        Check.same("the bit stays", x.item(0, 4), 1);
    }

    private static void changeUsesTheTimeOfItsLastStep() {
        SteppedCache x = new SteppedCache(4, 2);
        Drive.setFor(x, 1, 10, 5);
        x.write(0, 1, 20, 7, 0);
        x.work(2);
        x.pass(100);
        x.work(1);
        Check.same("expiry", x.item(0, 3), 107);
    }

    /** With one slot a bucket: item 0 in its first bucket, 3, and item 1 in its second, 5, with tokens 1 and 2. */
    private static SteppedCache withTwo(int life) {
        SteppedCache x = new SteppedCache(4, 1);
        Drive.setFor(x, IN_FIRST, 10, life);
        Drive.setFor(x, IN_SECOND, 20, life);
        Check.same("in the first bucket", x.where(IN_FIRST), 3);
        Check.same("in the second bucket", x.where(IN_SECOND), 5);
        return x;
    }

    private static void ends(SteppedCache x, String what, int steps, int outcome) {
        Check.same(what + ": steps", x.work(50), steps);
        Check.same(what + ": outcome", x.outcome(), outcome);
    }

    /** SET and ADD find no room in buckets 3 and 5, so the key for them has other buckets. */
    private static void kindsWhenNotFound() {
        int[] steps = {3, 3, 1, 1, 1};
        int[] outcomes = {1, 1, 2, 4, 4};
        for (int kind = 0; kind <= 4; kind++) {
            SteppedCache x = withTwo(0);
            View before = View.of(x, 4, 1);
            int key = kind < 2 ? Keys.nth(0, 6, 7) : NOWHERE;
            x.write(kind, key, 30, 0, 0);
            ends(x, "kind " + kind + " not found", steps[kind], outcomes[kind]);
            if (kind < 2) {
                holds(x, 2, key, 30, 3, 0);
                Check.same("place", x.where(key), 6);
            } else {
                View.of(x, 4, 1).mustBe("kind " + kind + " not found", before, "outcome()", "count(5)");
            }
        }
    }

    private static void holds(SteppedCache x, int i, int key, int value, int token, int expiry) {
        int[] due = {key, value, token, expiry, 0};
        for (int which = 0; which < due.length; which++) {
            Check.same("item(" + i + ", " + which + ")", x.item(i, which), due[which]);
        }
    }

    private static void kindsWhenFound() {
        int[] steps = {3, 1, 3, 3, 1};
        int[] outcomes = {1, 2, 1, 1, 5};
        for (int n = 0; n < 10; n++) {
            int kind = n / 2;
            int i = n % 2;
            int key = i == 0 ? IN_FIRST : IN_SECOND;
            SteppedCache x = withTwo(8);
            x.pass(7);
            View before = View.of(x, 4, 1);
            x.write(kind, key, 30, 6, i + 1);
            ends(x, "kind " + kind + " found", steps[kind], outcomes[kind]);
            if (outcomes[kind] == 1) {
                holds(x, i, key, 30, 3, 13);
                Check.same("version of kind " + kind, x.version(2), 2);
                View.of(x, 4, 1).mustBe("kind " + kind + " found", before, "outcome()", "version(2)", "count(5)", "count(9)",
                        "item(" + i + ", 1)", "item(" + i + ", 2)", "item(" + i + ", 3)");
            } else if (outcomes[kind] == 2) {
                View.of(x, 4, 1).mustBe("ADD found", before, "outcome()", "count(5)");
            } else {
                Check.no("DELETE found", x.used(i));
                Check.same("version of DELETE", x.version(2), 2);
            }
        }
    }

    private static void kindsWhenFoundButExpired() {
        int[] steps = {3, 3, 1, 1, 1};
        int[] outcomes = {1, 1, 2, 4, 4};
        for (int n = 0; n < 10; n++) {
            int kind = n / 2;
            int i = n % 2;
            int key = i == 0 ? IN_FIRST : IN_SECOND;
            SteppedCache x = withTwo(8);
            x.pass(8);
            x.write(kind, key, 30, 6, i + 1);
            ends(x, "kind " + kind + " expired", steps[kind], outcomes[kind]);
            Check.same("version of kind " + kind + " expired", x.version(2), 2);
            Check.same("expired ones removed", x.count(6), 1);
            Check.yes("the other expired one stays", x.used(1 - i));
            Check.same("used by kind " + kind, x.used(i) ? 1 : 0, kind < 2 ? 1 : 0);
            Check.same("latest token", x.count(9), kind < 2 ? 3 : 2);
            if (kind < 2) {
                holds(x, i, key, 30, 3, 14);
                Check.same("place", x.where(key), i == 0 ? 3 : 5);
            }
        }
    }

    private static void casTokens() {
        SteppedCache x = withTwo(0);
        int[] others = {1, 3, 0, -1, -2, 258, 65538, Integer.MIN_VALUE, Integer.MIN_VALUE + 2, Integer.MAX_VALUE};
        View before = View.of(x, 4, 1);
        for (int token : others) {
            x.write(Drive.CAS, IN_SECOND, 30, 5, token);
            ends(x, "CAS with token " + token, 1, 3);
        }
        View.of(x, 4, 1).mustBe("CAS with other tokens", before, "outcome()", "count(5)");
        for (int token = 2; token <= 6; token++) {
            Check.same("CAS with token " + token, Drive.write(x, Drive.CAS, IN_SECOND, token, 5, token), 1);
        }
    }

    private static void tokenCountsForCasAlone() {
        int[] kinds = {Drive.SET, Drive.REPLACE, Drive.DELETE};
        for (int kind : kinds) {
            for (int token : new int[] {0, -1, 77, Integer.MAX_VALUE}) {
                Check.same("kind " + kind, Drive.write(withTwo(0), kind, IN_FIRST, 1, 0, token), kind == 4 ? 5 : 1);
            }
        }
    }

    private static void lives() {
        for (int life : new int[] {0, 1, 2, 999, 1000}) {
            for (int passed = 0; passed < 2; passed++) {
                SteppedCache x = new SteppedCache(4, 1);
                if (passed == 1) {
                    x.pass(7);
                }
                int due = life == 0 ? 0 : x.count(7) + life;
                Drive.setFor(x, IN_FIRST, 1, life);
                Check.same("expiry of INSERT with life " + life, x.item(0, 3), due);
                Drive.setFor(x, IN_FIRST, 1, 5);
                Drive.setFor(x, IN_FIRST, 1, life);
                Check.same("expiry of CHANGE with life " + life, x.item(0, 3), due);
            }
        }
    }

    private static void tokensGrowByOne() {
        SteppedCache x = new SteppedCache(2, 1);
        Drive.set(x, IN_FIRST, 1);
        Check.same("the first token", x.item(0, 2), 1);
        Drive.set(x, IN_SECOND, 1);
        Check.same("the next one", x.item(1, 2), 2);
        Drive.write(x, Drive.ADD, IN_FIRST, 1, 0, 0);
        Drive.write(x, Drive.REPLACE, NOWHERE, 1, 0, 0);
        Drive.write(x, Drive.CAS, IN_FIRST, 1, 0, 9);
        Drive.write(x, Drive.DELETE, NOWHERE, 1, 0, 0);
        Check.same("none for what stores nothing", x.count(9), 2);
        Drive.write(x, Drive.CAS, IN_FIRST, 1, 0, 1);
        Check.same("one for a CHANGE", x.item(0, 2), 3);
        Drive.delete(x, IN_FIRST);
        Drive.set(x, IN_FIRST, 1);
        Check.same("a token does not come again", x.item(0, 2), 4);
        Check.same("the latest token", x.count(9), 4);
        x.write(Drive.SET, IN_FIRST, 1, 0, 0);
        x.work(2);
        Check.same("none before the last step", x.count(9), 4);
    }

    private static void timeOfTheFirstStepTellsWhatIsExpired() {
        SteppedCache x = withTwo(8);
        x.write(Drive.REPLACE, IN_FIRST, 30, 0, 0);
        x.pass(8);
        ends(x, "expired since the write began", 1, 2);
        Check.same("expired ones removed", x.count(6), 1);
    }

    private static void changeOfWhatExpiresMeanwhile() {
        for (int steps = 1; steps <= 2; steps++) {
            SteppedCache x = withTwo(8);
            x.write(Drive.CAS, IN_FIRST, 30, 4, 1);
            x.work(steps);
            x.pass(9);
            ends(x, "expired since step " + steps, 3 - steps, 1);
            holds(x, 0, IN_FIRST, 30, 3, 13);
            Check.same("expired ones removed", x.count(6), 0);
        }
    }

    /** With eviction and four moves a write has the most steps there are, 12. */
    private static void workEdges() {
        for (int n : new int[] {1, 2, 11, 12, 13, 49, 50}) {
            SteppedCache x = new SteppedCache(7, 1);
            Drive.set(x, Keys.nth(0, 7, 6), 1);
            Drive.set(x, Keys.nth(0, 0, 2), 1);
            Drive.set(x, Keys.nth(0, 1, 0), 1);
            for (int bucket = 2; bucket <= 4; bucket++) {
                Drive.set(x, Keys.nth(0, bucket, bucket + 1), 1);
            }
            Drive.set(x, Keys.nth(0, 6, 7), 1);
            x.write(Drive.SET, Keys.nth(0, 0, 1), 1, 0, 0);
            Check.same("work(" + n + ") of 12 steps", x.work(n), Math.min(n, 12));
            Check.same("outcome after " + n, x.outcome(), n < 12 ? 0 : 1);
            Check.same("the rest after " + n, x.work(50), Math.max(12 - n, 0));
            Check.same("outcome at the end", x.outcome(), 1);
            Check.same("moves", x.count(2), 4);
            Check.same("evictions", x.count(1), 1);
        }
    }
}
