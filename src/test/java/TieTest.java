/** Promise 7: tie. */
public final class TieTest {
    private static final Check check = new Check("TieTest");

    public static void main(String[] args) {
        wrongInputs();
        joinsAndParts();
        chains();
        hushedOnesLeadNowhere();
        room();
        check.end();
    }

    private static void wrongInputs() {
        CryOrder x = new CryOrder();
        check.due("tie without alarms", x.tie(0, 1, true), false);
        x.alarm(0, 0, 0, 1);
        x.alarm(0, 1, 0, 1);
        int[][] wrong = {{0, 0}, {1, 1}, {0, 2}, {2, 0}, {-1, 0}, {0, -1}, {-1, -1},
            {Integer.MAX_VALUE, 0}, {0, Integer.MIN_VALUE}};
        for (int[] w : wrong) {
            check.due("tie(" + w[0] + ", " + w[1] + ", true)", x.tie(w[0], w[1], true), false);
            check.due("tie(" + w[0] + ", " + w[1] + ", false)", x.tie(w[0], w[1], false), false);
        }
        check.due("count(5)", x.count(5), 0);
    }

    private static void joinsAndParts() {
        CryOrder x = new CryOrder();
        x.alarm(0, 0, 0, 1);
        x.alarm(0, 1, 0, 1);
        x.alarm(1, 0, 0, 1);
        check.due("unlike things", x.told(1, 12), 1);
        check.due("one thing", x.told(2, 12), 0);
        check.due("JOINED", x.tie(1, 0, true), true);
        check.due("told(1, 12)", x.told(1, 12), 0);
        check.due("it's so", x.tie(1, 0, true), false);
        check.due("it's so the other way round", x.tie(0, 1, true), false);
        check.due("count(5)", x.count(5), 1);
        check.due("PARTED in its place", x.tie(0, 1, false), true);
        check.due("told(1, 12)", x.told(1, 12), 1);
        check.due("count(5)", x.count(5), 1);
        check.due("PARTED of one thing", x.tie(2, 0, false), true);
        check.due("told(2, 12)", x.told(2, 12), 2);
        check.due("count(3)", x.count(3), 3);
        check.due("count(5)", x.count(5), 2);
        check.due("it's so", x.tie(0, 2, false), false);
        check.due("JOINED again", x.tie(0, 2, true), true);
        check.due("told(2, 12)", x.told(2, 12), 0);
    }

    private static void chains() {
        CryOrder x = new CryOrder();
        x.alarm(0, 7, 0, 1);
        x.alarm(1, 7, 0, 1);
        x.alarm(2, 7, 0, 1);
        x.tie(0, 2, false);
        check.due("PARTED, but a chain leads there", x.told(2, 12), 0);
        x.tie(1, 2, false);
        check.due("PARTED from all", x.told(2, 12), 2);
        x.pass(21);
        x.alarm(3, 7, 0, 1);
        check.due("21 later", x.told(3, 12), 3);
        x.tie(3, 0, true);
        check.due("JOINED over time", x.told(3, 12), 0);
        x.tie(3, 2, true);
        check.due("a chain of JOINED ones", x.told(2, 12), 0);
        check.due("caseOf(0, 0)", x.caseOf(0, 0), 4);
    }

    private static void hushedOnesLeadNowhere() {
        CryOrder x = new CryOrder();
        x.silence(5, 0, 0);
        x.alarm(0, 0, 0, 1);
        x.alarm(5, 1, 0, 1);
        x.alarm(0, 2, 0, 1);
        check.due("with a SILENCED one", x.tie(0, 1, true), true);
        check.due("with a SILENCED one", x.tie(1, 2, true), true);
        check.due("no chain through it", x.told(2, 12), 2);
        x.alarm(0, 3, 0, 1);
        x.tie(0, 3, true);
        x.tie(3, 2, true);
        check.due("a chain", x.told(2, 12), 0);
        x.verdict(3, 0, true);
        x.verdict(3, 1, true);
        check.due("no chain through a SETTLED one", x.told(2, 12), 2);
        check.due("pairs stay told", x.count(5), 4);
        check.due("a SETTLED one may be tied", x.tie(3, 1, false), true);
    }

    private static void room() {
        CryOrder x = new CryOrder();
        for (int i = 0; i < 62; i++) {
            x.alarm(0, i % 40, i, 1);
        }
        for (int i = 0; i < 60; i++) {
            check.due("tie " + i, x.tie(i, i + 1, i % 2 == 0), true);
        }
        check.due("tie 60", x.tie(60, 61, true), false);
        check.due("count(5)", x.count(5), 60);
        check.due("another word for a told pair", x.tie(1, 0, false), true);
        check.due("it's so", x.tie(1, 0, false), false);
        check.due("count(5)", x.count(5), 60);
    }
}
