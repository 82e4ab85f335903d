import java.util.ArrayList;
import java.util.List;
import java.util.function.ToIntFunction;

/**
 * Wherever a promise says "changing nothing", and for every call that only looks: in each situation the
 * call is made on one of two objects that are alike, and both stay alike, at once and as they go on.
 */
public final class RefusalTest {
    private static final int SAMPLE_KEY = Situation.BLOCKING;

    private final Situation situation;
    private final View before;
    private final List<Integer> answersLater = new ArrayList<>();
    private final View later;

    private RefusalTest(Situation situation) {
        this.situation = situation;
        SteppedCache x = situation.make();
        before = View.of(x, Situation.ITEMS, Situation.WAYS);
        goOn(x, answersLater);
        later = View.of(x, Situation.ITEMS, Situation.WAYS);
    }

    public static void main(String[] args) {
        allIsMet();
        for (Situation situation : Situation.all()) {
            RefusalTest test = new RefusalTest(situation);
            test.writes();
            test.work();
            test.gets();
            test.steps();
            test.passes();
            test.looksAtReaders();
            test.looksAtItems();
            test.looksAtTheRest();
        }
        Check.end();
    }

    /** Situations that leave out an outcome or a state would say nothing about it. */
    private static void allIsMet() {
        boolean[] outcomes = new boolean[8];
        boolean[] states = new boolean[9];
        for (Situation situation : Situation.all()) {
            SteppedCache x = situation.make();
            outcomes[x.outcome() + 1] = true;
            for (int r = 0; r < 3; r++) {
                states[x.state(r)] = true;
            }
        }
        for (int n = 0; n < outcomes.length; n++) {
            Check.yes("a situation has the outcome " + (n - 1), outcomes[n]);
        }
        for (int state = 0; state < states.length; state++) {
            Check.yes("a situation has the state " + state, states[state]);
        }
    }

    /** Brings out what cannot be seen at once: what a write or a reading has kept for its later steps. */
    private static void goOn(SteppedCache x, List<Integer> answers) {
        stepAll(x, answers);
        answers.add(x.work(1));
        stepAll(x, answers);
        answers.add(x.work(50));
        answers.add(x.write(Drive.SET, SAMPLE_KEY, 99, 3, 0) ? 1 : 0);
        answers.add(x.work(50));
        for (int n = 0; n < 10; n++) {
            stepAll(x, answers);
        }
    }

    private static void stepAll(SteppedCache x, List<Integer> answers) {
        for (int r = 0; r < 3; r++) {
            answers.add(x.step(r));
        }
    }

    private void changesNothing(String call, int due, ToIntFunction<SteppedCache> made) {
        SteppedCache x = situation.make();
        String where = situation.name + ", " + call;
        Check.same(where, made.applyAsInt(x), due);
        staysAlike(where, x);
    }

    private void looks(String call, ToIntFunction<SteppedCache> made) {
        SteppedCache x = situation.make();
        made.applyAsInt(x);
        staysAlike(situation.name + ", " + call, x);
    }

    private void staysAlike(String where, SteppedCache x) {
        View.of(x, Situation.ITEMS, Situation.WAYS).mustBe("after " + where, before);
        List<Integer> answers = new ArrayList<>();
        goOn(x, answers);
        Check.yes("answers later than " + where + ": " + answers + ", due are " + answersLater,
                answers.equals(answersLater));
        View.of(x, Situation.ITEMS, Situation.WAYS).mustBe("later than " + where, later);
    }

    private void writeIsRefused(int kind, int key, int life) {
        changesNothing("write(" + kind + ", " + key + ", 5, " + life + ", 6)", 0,
                x -> x.write(kind, key, 5, life, 6) ? 1 : 0);
    }

    private void writes() {
        for (int kind : Numbers.beyond(0, 4)) {
            writeIsRefused(kind, SAMPLE_KEY, 0);
        }
        for (int kind = 0; kind <= 4; kind++) {
            for (int life : Numbers.beyond(0, 1000)) {
                writeIsRefused(kind, SAMPLE_KEY, life);
            }
        }
        writeIsRefused(5, SAMPLE_KEY, 1001);
        if (situation.make().outcome() == 0) {
            for (int kind = 0; kind <= 4; kind++) {
                writeIsRefused(kind, SAMPLE_KEY, 0);
                writeIsRefused(kind, Situation.NEVER_SET, 1000);
            }
        }
    }

    private void work() {
        for (int n : Numbers.beyond(1, 50)) {
            changesNothing("work(" + n + ")", 0, x -> x.work(n));
        }
        if (situation.make().outcome() != 0) {
            for (int n : Numbers.edges(1, 50)) {
                changesNothing("work(" + n + ")", 0, x -> x.work(n));
            }
        }
    }

    private void gets() {
        for (int r : Numbers.beyond(0, 2)) {
            changesNothing("get(" + r + ", key)", 0, x -> x.get(r, SAMPLE_KEY) ? 1 : 0);
        }
        for (int r = 0; r < 3; r++) {
            int reader = r;
            int state = situation.make().state(r);
            if (state >= 1 && state <= 6) {
                for (int key : new int[] {SAMPLE_KEY, Situation.NEVER_SET}) {
                    changesNothing("get(" + r + ", " + key + ")", 0, x -> x.get(reader, key) ? 1 : 0);
                }
            }
        }
    }

    private void steps() {
        for (int r : Numbers.beyond(0, 2)) {
            changesNothing("step(" + r + ")", -1, x -> x.step(r));
        }
        for (int r = 0; r < 3; r++) {
            int reader = r;
            int state = situation.make().state(r);
            if (state == 0 || state == 7 || state == 8) {
                changesNothing("step(" + r + ") in state " + state, -1, x -> x.step(reader));
            }
        }
    }

    private void passes() {
        for (int n : Numbers.beyond(1, 1000)) {
            changesNothing("pass(" + n + ")", 0, x -> x.pass(n) ? 1 : 0);
        }
    }

    private void looksAtReaders() {
        for (int r : Numbers.beyond(0, 2)) {
            changesNothing("state(" + r + ")", -1, x -> x.state(r));
            changesNothing("value(" + r + ")", 0, x -> x.value(r));
            changesNothing("token(" + r + ")", 0, x -> x.token(r));
        }
        for (int r = 0; r < 3; r++) {
            int reader = r;
            looks("state(" + r + ")", x -> x.state(reader));
            looks("value(" + r + ")", x -> x.value(reader));
            looks("token(" + r + ")", x -> x.token(reader));
        }
    }

    private void looksAtItems() {
        int last = Situation.ITEMS - 1;
        for (int i : Numbers.beyond(0, last)) {
            changesNothing("used(" + i + ")", 0, x -> x.used(i) ? 1 : 0);
            for (int which : Numbers.edges(0, 4)) {
                changesNothing("item(" + i + ", " + which + ")", 0, x -> x.item(i, which));
            }
        }
        for (int i = 0; i <= last; i++) {
            int number = i;
            looks("used(" + i + ")", x -> x.used(number) ? 1 : 0);
            for (int which = 0; which <= 4; which++) {
                int part = which;
                looks("item(" + i + ", " + which + ")", x -> x.item(number, part));
            }
            for (int which : Numbers.beyond(0, 4)) {
                changesNothing("item(" + i + ", " + which + ")", 0, x -> x.item(number, which));
            }
        }
    }

    private void looksAtTheRest() {
        looks("outcome()", SteppedCache::outcome);
        for (int p : Numbers.beyond(0, 8 * Situation.WAYS - 1)) {
            changesNothing("at(" + p + ")", -1, x -> x.at(p));
        }
        for (int p : Numbers.edges(0, 8 * Situation.WAYS - 1)) {
            looks("at(" + p + ")", x -> x.at(p));
        }
        for (int stripe : Numbers.beyond(0, 3)) {
            changesNothing("version(" + stripe + ")", -1, x -> x.version(stripe));
        }
        for (int stripe : Numbers.edges(0, 3)) {
            looks("version(" + stripe + ")", x -> x.version(stripe));
        }
        for (int which : Numbers.beyond(0, 9)) {
            changesNothing("count(" + which + ")", -1, x -> x.count(which));
        }
        for (int which = 0; which <= 9; which++) {
            int number = which;
            looks("count(" + which + ")", x -> x.count(number));
        }
        int[] keys = {SAMPLE_KEY, Situation.NEVER_SET, Situation.FAR, Situation.TURNED, Situation.NEW};
        for (int key : keys) {
            looks("where(" + key + ")", x -> x.where(key));
            looks("hash(" + key + ")", x -> x.hash(key));
        }
    }
}
