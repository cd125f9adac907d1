/** Promise 17: count. */
public final class CountTest {
    private static final Check check = new Check("CountTest");

    public static void main(String[] args) {
        CryOrder x = new CryOrder();
        int[] wrong = {-1, 6, Integer.MAX_VALUE, Integer.MIN_VALUE};
        for (int w : wrong) {
            check.due("count(" + w + ")", x.count(w), -1);
        }
        x.pass(3);
        x.alarm(0, 0, 0, 1);
        look(x, 3, 1, 1, 1, 0, 0);
        x.alarm(0, 0, 0, 1);
        look(x, 3, 1, 1, 1, 0, 0);
        x.silence(1, 3, 3);
        x.alarm(1, 1, 0, 1);
        look(x, 3, 2, 2, 1, 1, 0);
        x.set(0, 1);
        x.alarm(0, 2, 0, 1);
        look(x, 3, 3, 3, 1, 1, 0);
        x.alarm(2, 0, 0, 1);
        x.alarm(3, 3, 0, 1);
        look(x, 3, 5, 5, 2, 1, 0);
        x.tie(0, 3, false);
        x.tie(0, 4, true);
        look(x, 3, 5, 5, 2, 1, 2);
        x.verdict(1, 0, true);
        x.verdict(1, 1, true);
        look(x, 3, 5, 4, 2, 1, 2);
        x.verdict(3, 0, true);
        x.verdict(3, 1, true);
        look(x, 3, 5, 3, 1, 1, 2);
        check.end();
    }

    private static void look(CryOrder x, int... want) {
        for (int what = 0; what < want.length; what++) {
            check.due("count(" + what + ")", x.count(what), want[what]);
        }
    }
}
