/** Promise 11: order. */
public final class OrderTest {
    public static void main(String[] args) {
        Check check = new Check("OrderTest");
        CryOrder x = new CryOrder();
        int[] worth = {10, 30, 20, 30, 10, 40};
        for (int i = 0; i < worth.length; i++) {
            x.alarm(0, i, 0, worth[i]);
        }
        int[] want = {5, 1, 3, 2, 0, 4, -1};
        for (int k = 0; k < want.length; k++) {
            check.due("order(" + k + ")", x.order(k), want[k]);
        }
        int[] wrong = {-1, 6, 199, 200, Integer.MAX_VALUE, Integer.MIN_VALUE};
        for (int k : wrong) {
            check.due("order(" + k + ")", x.order(k), -1);
        }
        x.alarm(1, 4, 0, 50);
        check.due("a CASE has its greatest SCORE", x.order(0), 4);
        x.verdict(6, 0, true);
        x.verdict(6, 1, true);
        check.due("it's SETTLED", x.order(0), 5);
        check.due("order(5)", x.order(5), 4);
        x.silence(2, 0, 0);
        x.alarm(2, 30, 0, 100);
        check.due("a SILENCED one is in none", x.order(0), 5);

        // All 200 in CASES of their own.
        CryOrder y = new CryOrder();
        for (int i = 0; i < 200; i++) {
            if (i % 40 == 0 && i > 0) {
                y.pass(21);
            }
            y.alarm(i % 10, i % 40, 0, 1 + i % 100);
        }
        check.due("count(3)", y.count(3), 200);
        check.due("order(0)", y.order(0), 99);
        check.due("order(1)", y.order(1), 199);
        check.due("order(198)", y.order(198), 0);
        check.due("order(199)", y.order(199), 100);
        check.due("order(200)", y.order(200), -1);
        check.end();
    }
}
