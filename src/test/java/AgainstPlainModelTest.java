import java.util.Set;
import java.util.TreeSet;

/** All promises: runs of calls by fixed seeds, answered by the class and by the plain model. */
public final class AgainstPlainModelTest {
    private static final int RUNS = 160;
    private static final int CALLS = 512;
    /** What some run must come upon, lest the runs compare little: see upon. */
    private static final String[] WANTED = {
        "a repeat with 200 alarms", "a 201st alarm", "a refusal with 60 pairs told",
        "another word with 60 pairs told", "a refusal with 30 silences told", "a pass beyond the end",
        "the end of time", "a silenced alarm", "a capped alarm", "a settled alarm", "a slow thing",
        "a thirteenth case", "a plan of more than twelve",
    };

    private final Check check = new Check("AgainstPlainModelTest");
    private final Set<String> met = new TreeSet<>();

    public static void main(String[] args) {
        AgainstPlainModelTest test = new AgainstPlainModelTest();
        for (int run = 0; run < RUNS; run++) {
            test.play(run);
        }
        for (String each : WANTED) {
            test.check.due("some run comes upon " + each, test.met.contains(each), true);
        }
        test.check.end();
    }

    private void play(int run) {
        Caller caller = new Caller(run);
        CryOrder x = new CryOrder();
        PlainModel y = new PlainModel();
        for (int i = 0; i < CALLS; i++) {
            Call call = caller.next();
            int[] ahead = {y.count(1), y.count(4), y.count(5)};
            int want = call.on(y);
            check.due("run " + run + " call " + i + " " + call, call.on(x), want);
            caller.hear(call, want);
            met.add(upon(call, want, ahead));
        }
    }

    /** What a call came upon, told from its answer and how many alarms, silences, pairs there were ahead of it. */
    private static String upon(Call call, int answer, int[] ahead) {
        return switch (call.name) {
            case "alarm" -> ahead[0] < 200 ? "" : answer >= 0 ? "a repeat with 200 alarms"
                    : answer == -3 ? "a 201st alarm" : "";
            case "silence" -> ahead[1] < 30 ? "" : "a refusal with 30 silences told";
            case "tie" -> ahead[2] < 60 ? "" : answer == 1 ? "another word with 60 pairs told"
                    : "a refusal with 60 pairs told";
            case "pass" -> answer == 10000 ? "the end of time"
                    : answer == -1 && call.args[0] >= 1 && call.args[0] <= 1000 ? "a pass beyond the end" : "";
            case "slow" -> answer >= 0 ? "a slow thing" : "";
            case "order" -> answer >= 0 && call.args[0] >= 12 ? "a thirteenth case" : "";
            case "plan" -> answer > 12 && call.args[1] == -1 ? "a plan of more than twelve" : "";
            case "told" -> told(call.args[1], answer);
            default -> "";
        };
    }

    private static String told(int what, int answer) {
        if (answer < 1) {
            return "";
        }
        return what == 6 ? "a settled alarm" : what == 7 ? "a silenced alarm" : what == 8 ? "a capped alarm" : "";
    }
}
