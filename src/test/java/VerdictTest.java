/** Promise 6: verdict. */
public final class VerdictTest {
    public static void main(String[] args) {
        Check check = new Check("VerdictTest");
        CryOrder x = new CryOrder();
        check.due("no alarm yet", x.verdict(0, 0, true), -1);
        for (int i = 0; i < 4; i++) {
            x.alarm(0, i, 0, 10);
        }
        int[][] wrong = {{-1, 0}, {4, 0}, {0, -1}, {0, 10}, {Integer.MAX_VALUE, 0}, {Integer.MIN_VALUE, 0},
            {0, Integer.MAX_VALUE}, {0, Integer.MIN_VALUE}, {0, 32}};
        for (int[] w : wrong) {
            check.due("verdict of wrong inputs", x.verdict(w[0], w[1], true), -1);
        }
        check.due("told(0, 11)", x.told(0, 11), 0);

        check.due("first", x.verdict(0, 0, true), 0);
        check.due("the same looker", x.verdict(0, 0, true), -1);
        check.due("the same looker, unlike", x.verdict(0, 0, false), -1);
        check.due("told(0, 11)", x.told(0, 11), 1);
        check.due("told(0, 6)", x.told(0, 6), 0);
        check.due("second agrees", x.verdict(0, 9, true), 1);
        check.due("told(0, 6)", x.told(0, 6), 1);
        check.due("SETTLED", x.verdict(0, 5, false), -1);
        check.due("told(0, 11)", x.told(0, 11), 2);

        check.due("false", x.verdict(1, 3, false), 0);
        check.due("true", x.verdict(1, 4, true), 0);
        check.due("told(1, 6)", x.told(1, 6), 0);
        check.due("false again", x.verdict(1, 5, false), 1);
        check.due("told(1, 6)", x.told(1, 6), 2);
        check.due("told(1, 11)", x.told(1, 11), 3);

        check.due("node t", x.node(4, 0, 0), 1);
        check.due("node n", x.node(4, 0, 1), 2);
        check.due("node o", x.node(4, 0, 2), 2);

        x.silence(5, 0, 0);
        int hushed = x.alarm(5, 0, 8, 10);
        check.due("a SILENCED one, first", x.verdict(hushed, 0, true), 0);
        check.due("a SILENCED one, second", x.verdict(hushed, 1, true), 1);
        check.due("told(4, 6)", x.told(hushed, 6), 1);
        check.due("node of it", x.node(4, 8, 0), 1);

        check.due("its case goes", x.told(2, 12), 2);
        x.verdict(2, 0, true);
        check.due("one verdict: its case stays", x.told(2, 12), 2);
        x.verdict(2, 1, true);
        check.due("two: it's gone", x.told(2, 12), -1);
        check.end();
    }
}
