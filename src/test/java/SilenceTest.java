/** Promise 4: silence. */
public final class SilenceTest {
    public static void main(String[] args) {
        Check check = new Check("SilenceTest");
        CryOrder x = new CryOrder();
        check.due("alarm ahead of the silence", x.alarm(0, 0, 0, 1), 0);
        check.due("silence(0, 0, 0)", x.silence(0, 0, 0), 1);
        check.due("one that came before stays", x.told(0, 7), 0);
        check.due("silence(9, 3, 5)", x.silence(9, 3, 5), 2);
        check.due("silence(1, 10000, 10000)", x.silence(1, 10000, 10000), 3);
        int[][] wrong = {
            {-1, 0, 1}, {10, 0, 1}, {0, -1, 1}, {0, 2, 1}, {0, 0, 10001}, {0, 10001, 10001}, {0, 0, -1},
            {0, Integer.MIN_VALUE, Integer.MAX_VALUE},
        };
        for (int[] w : wrong) {
            check.due("silence of wrong inputs", x.silence(w[0], w[1], w[2]), -1);
        }
        check.due("count(4)", x.count(4), 3);

        int[] silenced = {0, 0, 0, 1, 1, 1, 0};
        for (int t = 0; t < silenced.length; t++) {
            int number = x.alarm(9, t, 0, 1);
            check.due("SILENCED at " + t, x.told(number, 7), silenced[t]);
            int other = x.alarm(8, t, 0, 1);
            check.due("another source at " + t, x.told(other, 7), 0);
            x.pass(1);
        }
        check.due("a silence of the past", x.silence(8, 0, 6), 4);
        check.due("changes nothing", x.told(2, 7), 0);
        check.due("the same silence again", x.silence(8, 0, 6), 5);
        for (int i = 6; i <= 30; i++) {
            check.due("silence " + i, x.silence(0, i, i), i);
        }
        check.due("silence 31", x.silence(7, 0, 10000), -1);
        check.due("count(4)", x.count(4), 30);
        check.due("silence 31 wasn't kept", x.told(x.alarm(7, 0, 0, 1), 7), 0);
        check.end();
    }
}
