/** Promise 9: node. */
public final class NodeTest {
    private static final int MARKS = 512 * 1 + 64 * 2 + 8 * 3 + 4;

    public static void main(String[] args) {
        Check check = new Check("NodeTest");
        CryOrder x = new CryOrder();
        int[][] wrong = {{-1, 0, 0}, {5, 0, 0}, {0, -1, 0}, {0, 4096, 0}, {0, 0, -1}, {0, 0, 3},
            {Integer.MAX_VALUE, 0, 0}, {0, Integer.MIN_VALUE, 0}, {0, 0, Integer.MAX_VALUE}};
        for (int[] w : wrong) {
            check.due("node of wrong inputs", x.node(w[0], w[1], w[2]), -1);
        }
        x.alarm(0, 0, MARKS, 1);
        x.alarm(0, 0, MARKS + 1, 1);
        x.alarm(0, 0, MARKS + 8, 1);
        x.alarm(0, 0, MARKS + 64, 1);
        x.alarm(0, 0, MARKS + 512, 1);
        x.set(0, 1);
        x.alarm(0, 1, MARKS, 1);
        x.silence(1, 0, 0);
        x.alarm(1, 1, MARKS, 1);
        int[] open = {7, 6, 5, 4, 3};
        for (int d = 0; d <= 4; d++) {
            check.due("node(" + d + ", MARKS, 2)", x.node(d, MARKS, 2), open[d]);
            check.due("node(" + d + ", MARKS, 1)", x.node(d, MARKS, 1), 0);
        }
        check.due("later MARKS don't matter", x.node(1, 512, 2), 6);
        check.due("later MARKS don't matter", x.node(1, 1023, 2), 6);
        check.due("node(4, MARKS + 1, 2)", x.node(4, MARKS + 1, 2), 1);
        check.due("node(2, 0, 2)", x.node(2, 0, 2), 0);

        settle(x, 1, true);
        settle(x, 5, true);
        settle(x, 6, false);
        int[][] due = {{2, 3, 4}, {2, 3, 3}, {2, 3, 2}, {2, 3, 1}, {1, 2, 1}};
        for (int d = 0; d <= 4; d++) {
            for (int what = 0; what <= 2; what++) {
                check.due("node(" + d + ", MARKS, " + what + ")", x.node(d, MARKS, what), due[d][what]);
            }
        }
        check.end();
    }

    private static void settle(CryOrder x, int alarm, boolean is) {
        x.verdict(alarm, 2, is);
        x.verdict(alarm, 3, is);
    }
}
