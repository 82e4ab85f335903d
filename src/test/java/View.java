import java.util.ArrayList;
import java.util.List;

/** All that can be seen of an object at once, to tell whether anything has changed since. */
final class View {
    private final List<String> calls = new ArrayList<>();
    private final List<Integer> answers = new ArrayList<>();

    /** Costs 8 * ways + 6 * items + 24 calls of the 512 for which the document promises anything. */
    static View of(SteppedCache x, int items, int ways) {
        View seen = new View();
        seen.add("outcome()", x.outcome());
        for (int p = 0; p < 8 * ways; p++) {
            seen.add("at(" + p + ")", x.at(p));
        }
        for (int i = 0; i < items; i++) {
            seen.add("used(" + i + ")", x.used(i) ? 1 : 0);
            for (int which = 0; which < 5; which++) {
                seen.add("item(" + i + ", " + which + ")", x.item(i, which));
            }
        }
        for (int stripe = 0; stripe < 4; stripe++) {
            seen.add("version(" + stripe + ")", x.version(stripe));
        }
        for (int r = 0; r < 3; r++) {
            seen.add("state(" + r + ")", x.state(r));
            seen.add("value(" + r + ")", x.value(r));
            seen.add("token(" + r + ")", x.token(r));
        }
        for (int which = 0; which < 10; which++) {
            seen.add("count(" + which + ")", x.count(which));
        }
        return seen;
    }

    private void add(String call, int answer) {
        calls.add(call);
        answers.add(answer);
    }

    /** The same, but for the calls named, whose answers are looked at elsewhere. */
    void mustBe(String when, View due, String... butFor) {
        for (int n = 0; n < calls.size(); n++) {
            if (!List.of(butFor).contains(calls.get(n))) {
                Check.same(when + ": " + calls.get(n), answers.get(n), due.answers.get(n));
            }
        }
    }
}
