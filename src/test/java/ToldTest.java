/** Promise 8: told. */
public final class ToldTest {
    public static void main(String[] args) {
        Check check = new Check("ToldTest");
        CryOrder x = new CryOrder();
        x.set(1, 1);
        x.pass(7);
        x.alarm(3, 4, 2222, 33);
        x.alarm(3, 4, 2222, 44);
        x.alarm(3, 5, 2223, 55);
        int[] want = {7, 3, 4, 2222, 33, 1, 0, 0, 0, 16500, 0, 0, 0};
        for (int what = 0; what < want.length; what++) {
            check.due("told(0, " + what + ")", x.told(0, what), want[what]);
        }
        int[] wrong = {-1, 13, Integer.MAX_VALUE, Integer.MIN_VALUE};
        for (int w : wrong) {
            check.due("told(0, " + w + ")", x.told(0, w), -1);
            check.due("told(" + w + ", 0)", x.told(w, 0), -1);
        }
        check.due("told(2, 0)", x.told(2, 0), -1);

        // SCORE, cut: 33 times 1,000 times 2 by 3.
        x.alarm(0, 6, 2222, 1);
        x.alarm(0, 7, 2222, 1);
        x.alarm(0, 8, 2222, 1);
        boolean[] is = {true, false, true};
        for (int i = 0; i < 3; i++) {
            x.verdict(2 + i, 0, is[i]);
            x.verdict(2 + i, 1, is[i]);
        }
        check.due("told(0, 9)", x.told(0, 9), 22000);
        check.due("told(1, 9): 55,000 times 2 by 3, cut", x.told(1, 9), 36666);
        check.due("told(0, 10)", x.told(0, 10), 4);
        check.due("told(1, 10)", x.told(1, 10), 3);
        check.due("a SETTLED one has a SCORE, too", x.told(2, 9), 666);
        check.due("told(2, 6)", x.told(2, 6), 1);
        check.due("told(3, 6)", x.told(3, 6), 2);
        check.due("told(2, 11)", x.told(2, 11), 2);
        check.due("told(2, 12)", x.told(2, 12), -1);
        x.set(1, 4);
        check.due("none has N: depth 0", x.told(0, 10), 0);
        check.due("its ODDS are those of depth 0", x.told(0, 9), 22000);

        x.silence(9, 0, 100);
        int silenced = x.alarm(9, 4, 0, 10);
        check.due("SILENCED", x.told(silenced, 7), 1);
        check.due("SILENCED: no CASE", x.told(silenced, 12), -1);
        x.set(0, 1);
        x.alarm(8, 20, 0, 10);
        int capped = x.alarm(8, 4, 0, 10);
        check.due("CAPPED", x.told(capped, 8), 1);
        check.due("CAPPED: no CASE", x.told(capped, 12), -1);
        check.due("CAPPED: a SCORE", x.told(capped, 9), 6666);
        int near = x.alarm(7, 4, 1, 10);
        check.due("its CASE is the least ALARM's", x.told(near, 12), 0);
        check.end();
    }
}
