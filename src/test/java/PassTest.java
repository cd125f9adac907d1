/** Promise 2: pass. */
public final class PassTest {
    public static void main(String[] args) {
        Check check = new Check("PassTest");
        CryOrder x = new CryOrder();
        check.due("pass(1)", x.pass(1), 1);
        check.due("pass(1000)", x.pass(1000), 1001);
        int[] wrong = {0, -1, 1001, Integer.MAX_VALUE, Integer.MIN_VALUE};
        for (int n : wrong) {
            check.due("pass(" + n + ")", x.pass(n), -1);
            check.due("count(0)", x.count(0), 1001);
        }
        for (int i = 2; i <= 9; i++) {
            check.due("pass(1000)", x.pass(1000), i * 1000 + 1);
        }
        check.due("pass(1000) beyond the end", x.pass(1000), -1);
        check.due("count(0)", x.count(0), 9001);
        check.due("pass(999)", x.pass(999), 10000);
        check.due("pass(1) beyond the end", x.pass(1), -1);
        check.due("count(0)", x.count(0), 10000);
        check.due("alarm at the end", x.alarm(0, 0, 0, 1), 0);
        check.due("told(0, 0)", x.told(0, 0), 10000);
        check.end();
    }
}
