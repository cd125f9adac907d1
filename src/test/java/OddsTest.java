/** Promise 10: odds. */
public final class OddsTest {
    private static final Check check = new Check("OddsTest");

    public static void main(String[] args) {
        CryOrder x = new CryOrder();
        check.due("odds(0, 0)", x.odds(0, 0), -1);
        x.alarm(0, 0, 0, 1);
        int[] wrong = {-1, 6, Integer.MAX_VALUE, Integer.MIN_VALUE};
        for (int w : wrong) {
            check.due("odds(0, " + w + ")", x.odds(0, w), -1);
            check.due("odds(" + w + ", 0)", x.odds(w, 0), -1);
        }
        check.due("odds(1, 0)", x.odds(1, 0), -1);
        look(x, 0, new int[] {1, 2, 0, 1, 1, 1});

        for (int i = 1; i <= 8; i++) {
            x.alarm(0, i, 0, 1);
        }
        settle(x, 1, false);
        look(x, 0, new int[] {0, 1, 0, 1, 8, 9});
        settle(x, 2, true);
        settle(x, 3, true);
        settle(x, 4, false);
        look(x, 0, new int[] {1, 2, 2, 9, 7, 9});
        settle(x, 5, true);
        look(x, 0, new int[] {3, 5, 1, 3, 7, 9});
        settle(x, 6, true);
        look(x, 0, new int[] {2, 3, 4, 9, 7, 9});
        look(x, 1, new int[] {2, 3, 4, 9, 7, 9});

        // Another branch falls back on the deepest NODE that has N.
        x.alarm(0, 20, 64, 1);
        check.due("told(9, 10)", x.told(9, 10), 1);
        look(x, 9, new int[] {2, 3, 2, 5, 4, 5});
        x.set(1, 7);
        check.due("told(0, 10)", x.told(0, 10), 0);
        look(x, 0, new int[] {2, 3, 2, 5, 4, 5});
        settle(x, 7, true);
        settle(x, 8, true);
        settle(x, 0, true);
        look(x, 0, new int[] {7, 9, 7, 9, 7, 9});
        check.end();
    }

    private static void look(CryOrder x, int alarm, int[] want) {
        for (int what = 0; what < want.length; what++) {
            check.due("odds(" + alarm + ", " + what + ")", x.odds(alarm, what), want[what]);
        }
    }

    private static void settle(CryOrder x, int alarm, boolean is) {
        x.verdict(alarm, 4, is);
        x.verdict(alarm, 5, is);
    }
}
