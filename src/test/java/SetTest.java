/** Promise 5: set. */
public final class SetTest {
    public static void main(String[] args) {
        Check check = new Check("SetTest");
        CryOrder x = new CryOrder();
        int[][] right = {{0, 1}, {0, 50}, {1, 1}, {1, 20}, {2, 0}, {2, 5}};
        for (int[] r : right) {
            check.due("set(" + r[0] + ", " + r[1] + ")", x.set(r[0], r[1]), true);
            check.due("the same again", x.set(r[0], r[1]), true);
        }
        int[][] wrong = {
            {0, 0}, {0, 51}, {1, 0}, {1, 21}, {2, -1}, {2, 6}, {-1, 1}, {3, 1},
            {Integer.MAX_VALUE, 1}, {Integer.MIN_VALUE, 1}, {0, Integer.MAX_VALUE}, {1, Integer.MIN_VALUE},
        };
        for (int[] w : wrong) {
            check.due("set(" + w[0] + ", " + w[1] + ")", x.set(w[0], w[1]), false);
        }

        CryOrder y = new CryOrder();
        y.set(0, 1);
        y.set(0, 0);
        y.alarm(0, 0, 0, 10);
        y.alarm(0, 1, 0, 10);
        check.due("CAP stays 1", y.told(1, 8), 1);
        y.set(1, 1);
        y.set(1, 21);
        y.verdict(1, 0, false);
        y.verdict(1, 1, false);
        check.due("N stays 1", y.told(0, 10), 4);
        check.due("order by N 1: SCORE", y.caseOf(0, 1), 0);
        y.set(1, 2);
        check.due("N 2 at once", y.told(0, 10), 0);
        check.due("little known by N 2 at once", y.caseOf(0, 3), 1);
        check.due("TRY 0: SCORE 0 is not taken", y.plan(7, -1), 0);
        y.set(2, 1);
        y.set(2, 6);
        check.due("TRY 1: it's tried", y.plan(7, -1), 1);
        check.end();
    }
}
