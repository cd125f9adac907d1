/** Promise 16: source. */
public final class SourceTest {
    private static final Check check = new Check("SourceTest");

    public static void main(String[] args) {
        CryOrder x = new CryOrder();
        int[] wrong = {-1, 10, Integer.MAX_VALUE, Integer.MIN_VALUE};
        for (int w : wrong) {
            check.due("source(" + w + ", 0)", x.source(w, 0), -1);
        }
        int[] none = {-1, 7, Integer.MAX_VALUE, Integer.MIN_VALUE};
        for (int w : none) {
            check.due("source(0, " + w + ")", x.source(0, w), -1);
        }
        look(x, 9, 0, 0, 0, 0, 0, 0, 0);

        x.set(0, 3);
        x.alarm(4, 0, 0, 1);
        x.alarm(4, 0, 0, 1);
        x.alarm(4, 0, 0, 1);
        look(x, 4, 1, 1, 0, 0, 0, 0, 0);
        x.alarm(4, 1, 0, 1);
        x.alarm(4, 1, 0, 1);
        x.alarm(4, 2, 0, 1);
        look(x, 4, 3, 2, 0, 0, 0, 0, 0);
        x.alarm(4, 3, 0, 1);
        x.alarm(4, 4, 0, 1);
        look(x, 4, 5, 2, 0, 2, 0, 0, 0);
        x.silence(4, 0, 0);
        x.alarm(4, 5, 0, 1);
        x.alarm(4, 6, 0, 1);
        x.alarm(4, 7, 0, 1);
        look(x, 4, 8, 2, 3, 2, 0, 0, 0);
        settle(x, 0, true);
        settle(x, 1, false);
        look(x, 4, 8, 2, 3, 2, 1, 1, 0);
        settle(x, 3, true);
        settle(x, 4, false);
        settle(x, 5, true);
        settle(x, 6, false);
        look(x, 4, 8, 2, 3, 2, 3, 3, 2);
        x.verdict(7, 0, true);
        look(x, 4, 8, 2, 3, 2, 3, 3, 2);
        look(x, 3, 0, 0, 0, 0, 0, 0, 0);
        look(x, 5, 0, 0, 0, 0, 0, 0, 0);
        check.end();
    }

    private static void look(CryOrder x, int source, int... want) {
        for (int what = 0; what < want.length; what++) {
            check.due("source(" + source + ", " + what + ")", x.source(source, what), want[what]);
        }
    }

    private static void settle(CryOrder x, int alarm, boolean is) {
        x.verdict(alarm, 0, is);
        x.verdict(alarm, 1, is);
    }
}
