import java.util.Arrays;
import java.util.stream.Collectors;

/** One call of the face by its name and its arguments; a boolean counts 1 or 0, as argument and as answer. */
final class Call {
    final String name;
    final int[] args;

    Call(String name, int... args) {
        this.name = name;
        this.args = args;
    }

    int on(CryOrder x) {
        int[] a = args;
        return switch (name) {
            case "pass" -> x.pass(a[0]);
            case "alarm" -> x.alarm(a[0], a[1], a[2], a[3]);
            case "silence" -> x.silence(a[0], a[1], a[2]);
            case "set" -> x.set(a[0], a[1]) ? 1 : 0;
            case "verdict" -> x.verdict(a[0], a[1], a[2] != 0);
            case "tie" -> x.tie(a[0], a[1], a[2] != 0) ? 1 : 0;
            case "told" -> x.told(a[0], a[1]);
            case "node" -> x.node(a[0], a[1], a[2]);
            case "odds" -> x.odds(a[0], a[1]);
            case "order" -> x.order(a[0]);
            case "caseOf" -> x.caseOf(a[0], a[1]);
            case "slow" -> x.slow(a[0]);
            case "plan" -> x.plan(a[0], a[1]);
            case "worth" -> x.worth(a[0], a[1]);
            case "source" -> x.source(a[0], a[1]);
            case "count" -> x.count(a[0]);
            default -> throw new IllegalArgumentException("no call " + name);
        };
    }

    int on(PlainModel y) {
        int[] a = args;
        return switch (name) {
            case "pass" -> y.pass(a[0]);
            case "alarm" -> y.alarm(a[0], a[1], a[2], a[3]);
            case "silence" -> y.silence(a[0], a[1], a[2]);
            case "set" -> y.set(a[0], a[1]) ? 1 : 0;
            case "verdict" -> y.verdict(a[0], a[1], a[2] != 0);
            case "tie" -> y.tie(a[0], a[1], a[2] != 0) ? 1 : 0;
            case "told" -> y.told(a[0], a[1]);
            case "node" -> y.node(a[0], a[1], a[2]);
            case "odds" -> y.odds(a[0], a[1]);
            case "order" -> y.order(a[0]);
            case "caseOf" -> y.caseOf(a[0], a[1]);
            case "slow" -> y.slow(a[0]);
            case "plan" -> y.plan(a[0], a[1]);
            case "worth" -> y.worth(a[0], a[1]);
            case "source" -> y.source(a[0], a[1]);
            case "count" -> y.count(a[0]);
            default -> throw new IllegalArgumentException("no call " + name);
        };
    }

    /** Whether the call may change the object, and not only ask it. */
    boolean isChange() {
        return switch (name) {
            case "pass", "alarm", "silence", "set", "verdict", "tie" -> true;
            default -> false;
        };
    }

    @Override
    public String toString() {
        return name + Arrays.stream(args).mapToObj(Integer::toString).collect(Collectors.joining(", ", "(", ")"));
    }
}
