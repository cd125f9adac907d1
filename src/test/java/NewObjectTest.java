/** Promise 1: a new object. */
public final class NewObjectTest {
    public static void main(String[] args) {
        Check check = new Check("NewObjectTest");
        CryOrder x = new CryOrder();
        check.due("NONE", CryOrder.NONE, -1);
        for (int what = 0; what <= 5; what++) {
            check.due("count(" + what + ")", x.count(what), 0);
        }
        check.due("told(0, 0)", x.told(0, 0), -1);
        check.due("odds(0, 0)", x.odds(0, 0), -1);
        check.due("order(0)", x.order(0), -1);
        check.due("caseOf(0, 0)", x.caseOf(0, 0), -1);
        check.due("node(0, 0, 0)", x.node(0, 0, 0), 0);
        check.due("node(4, 4095, 2)", x.node(4, 4095, 2), 0);
        check.due("plan(300, NONE)", x.plan(300, -1), 0);
        check.due("plan(300, 0)", x.plan(300, 0), -1);
        check.due("worth(300, 0)", x.worth(300, 0), 0);
        check.due("worth(300, 1)", x.worth(300, 1), 0);
        check.due("worth(300, 2)", x.worth(300, 2), 0);
        check.due("slow(0)", x.slow(0), -1);
        check.due("source(0, 0)", x.source(0, 0), 0);

        CryOrder other = new CryOrder();
        other.pass(5);
        other.alarm(0, 0, 0, 1);
        check.due("count(0) of the first", x.count(0), 0);
        check.due("count(1) of the first", x.count(1), 0);

        // What holds at first: CAP 50, N 3, TRY 0.
        CryOrder first = new CryOrder();
        for (int i = 0; i < 51; i++) {
            first.alarm(0, i % 40, i, 10);
        }
        check.due("told(49, 8) by the CAP at first", first.told(49, 8), 0);
        check.due("told(50, 8) by the CAP at first", first.told(50, 8), 1);
        settle(first, 0, true);
        settle(first, 1, true);
        check.due("told(2, 10) with n 2", first.told(2, 10), 0);
        settle(first, 3, false);
        check.due("told(2, 10) with n 3", first.told(2, 10), 3);
        check.end();
    }

    private static void settle(CryOrder x, int alarm, boolean is) {
        x.verdict(alarm, 0, is);
        x.verdict(alarm, 1, is);
    }
}
