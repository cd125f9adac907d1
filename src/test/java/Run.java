import java.util.ArrayList;
import java.util.List;

/** A run of calls on a new object, each with the answer that is due. */
final class Run {
    /** The document tells nothing of an object after so many calls. */
    private static final int LIFE = 512;
    private static final int FUTURES = 8;

    private final Check check;
    private final String sentence;
    private final CryOrder x = new CryOrder();
    private final List<Call> past = new ArrayList<>();
    private int calls;

    /** The sentence of the document that the run is about stands ahead of every complaint. */
    Run(Check check, String sentence) {
        this.check = check;
        this.sentence = sentence;
    }

    int play(String name, int... args) {
        return play(new Call(name, args));
    }

    Run due(int want, String name, int... args) {
        Call call = new Call(name, args);
        check.due(sentence + ": " + call, play(call), want);
        return this;
    }

    /** The answer is due, and with the call or without it the object is the same now and later. */
    Run refused(int want, String name, int... args) {
        Call call = new Call(name, args);
        check.due(sentence + ": " + call, call.on(x), want);
        countCall();
        lookAtPresent(call);
        for (int seed = 0; seed < FUTURES; seed++) {
            lookAtFuture(call, seed);
        }
        return this;
    }

    private int play(Call call) {
        countCall();
        if (call.isChange()) {
            past.add(call);
        }
        return call.on(x);
    }

    private void countCall() {
        calls++;
        if (calls > LIFE) {
            throw new IllegalStateException(sentence + ": the run is longer than an object's life");
        }
    }

    private CryOrder again() {
        CryOrder twin = new CryOrder();
        for (Call each : past) {
            each.on(twin);
        }
        return twin;
    }

    private void lookAtPresent(Call call) {
        int spare = LIFE - past.size() - 1;
        CryOrder with = null;
        CryOrder without = null;
        int asked = spare;
        for (Call question : questions()) {
            if (asked == spare) {
                with = again();
                call.on(with);
                without = again();
                asked = 0;
            }
            check.due(sentence + ": after " + call + " " + question, question.on(with), question.on(without));
            asked++;
        }
    }

    private void lookAtFuture(Call call, int seed) {
        CryOrder with = again();
        call.on(with);
        CryOrder without = new CryOrder();
        Caller caller = new Caller(seed);
        for (Call each : past) {
            caller.hear(each, each.on(without));
        }
        for (int left = LIFE - past.size() - 1; left > 0; left--) {
            Call later = caller.next();
            int want = later.on(without);
            check.due(sentence + ": some calls after " + call + " " + later, later.on(with), want);
            caller.hear(later, want);
        }
    }

    private List<Call> questions() {
        List<Call> all = new ArrayList<>();
        ask(all, "count", -1, 6);
        for (int source = 0; source < 10; source++) {
            ask(all, "source", 0, 6, source);
        }
        ask(all, "slow", 0, 39);
        ask(all, "order", 0, 13);
        for (int minutes : new int[] {0, 7, 30, 300}) {
            ask(all, "plan", -1, 17, minutes);
            ask(all, "worth", 0, 2, minutes);
        }
        int alarms = again().count(1);
        for (int alarm = 0; alarm <= Math.min(alarms, 199); alarm++) {
            ask(all, "told", 0, 12, alarm);
            ask(all, "odds", 0, 5, alarm);
            ask(all, "caseOf", 0, 3, alarm);
            ask(all, "caseOf", 10, 12, alarm);
        }
        for (Call each : past) {
            for (int depth = 0; depth <= 4 && each.name.equals("alarm"); depth++) {
                ask(all, "node", 0, 2, depth, each.args[2]);
            }
        }
        return all;
    }

    private static void ask(List<Call> all, String name, int from, int to, int... first) {
        for (int last = from; last <= to; last++) {
            int[] args = java.util.Arrays.copyOf(first, first.length + 1);
            args[first.length] = last;
            all.add(new Call(name, args));
        }
    }
}
