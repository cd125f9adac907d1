/** Promise 12: caseOf. */
public final class CaseOfTest {
    public static void main(String[] args) {
        Check check = new Check("CaseOfTest");
        CryOrder x = new CryOrder();
        x.alarm(0, 1, 0, 10);
        x.alarm(0, 2, 0, 20);
        x.alarm(1, 1, 0, 40);
        x.pass(20);
        x.alarm(2, 1, 0, 30);
        x.pass(21);
        x.alarm(3, 1, 0, 50);
        int[] want = {3, 20000, 11, 1};
        for (int what = 0; what < want.length; what++) {
            check.due("caseOf(0, " + what + ")", x.caseOf(0, what), want[what]);
        }
        int[] members = {0, 2, 3, -1};
        for (int k = 0; k < members.length; k++) {
            check.due("caseOf(0, " + (10 + k) + ")", x.caseOf(0, 10 + k), members[k]);
        }
        check.due("21 apart: its own", x.caseOf(4, 0), 1);
        check.due("caseOf(4, 2)", x.caseOf(4, 2), 7);
        check.due("caseOf(4, 10)", x.caseOf(4, 10), 4);
        int[] wrong = {-1, 4, 5, 9, 13, 200, Integer.MAX_VALUE, Integer.MIN_VALUE};
        for (int what : wrong) {
            check.due("caseOf(0, " + what + ")", x.caseOf(0, what), -1);
        }
        int[] none = {-1, 2, 3, 5, 200, Integer.MAX_VALUE, Integer.MIN_VALUE};
        for (int number : none) {
            check.due("caseOf(" + number + ", 0)", x.caseOf(number, 0), -1);
            check.due("caseOf(" + number + ", 10)", x.caseOf(number, 10), -1);
        }

        x.verdict(0, 0, true);
        x.verdict(0, 1, true);
        check.due("its least is SETTLED", x.caseOf(0, 0), -1);
        check.due("the next least bears it", x.caseOf(2, 0), 2);
        x.set(1, 1);
        check.due("well known", x.caseOf(2, 3), 0);
        int unlike = x.alarm(4, 1, 512, 1);
        check.due("caseOf(4, 0)", x.caseOf(4, 0), 2);
        check.due("one that is little known is enough", x.caseOf(4, 3), 1);
        check.due("caseOf(4, 11)", x.caseOf(4, 11), unlike);
        x.tie(2, 4, true);
        check.due("joined", x.caseOf(2, 0), 4);
        check.due("caseOf(2, 13)", x.caseOf(2, 13), 5);
        check.due("caseOf(2, 2)", x.caseOf(2, 2), 13);

        // A repeat does not make a CASE reach further: when it came counts.
        CryOrder y = new CryOrder();
        y.alarm(0, 0, 0, 1);
        y.pass(10);
        y.alarm(0, 0, 0, 1);
        y.pass(11);
        y.alarm(1, 0, 0, 1);
        check.due("told(1, 12)", y.told(1, 12), 1);
        check.end();
    }
}
