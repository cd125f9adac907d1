/** Promise 3: alarm, with repeats and caps. */
public final class AlarmTest {
    private static final Check check = new Check("AlarmTest");

    public static void main(String[] args) {
        edgesAndWrongInputs();
        repeats();
        repeatsOfTheLatest();
        noRepeatOfSettledSilencedCapped();
        repeatComesAheadOfSilence();
        caps();
        room();
        check.end();
    }

    private static void edgesAndWrongInputs() {
        CryOrder x = new CryOrder();
        int[][] wrong = {
            {-1, 0, 0, 1}, {10, 0, 0, 1}, {0, -1, 0, 1}, {0, 40, 0, 1}, {0, 0, -1, 1}, {0, 0, 4096, 1},
            {0, 0, 0, 0}, {0, 0, 0, 101}, {0, 0, 0, -5},
            {Integer.MAX_VALUE, 0, 0, 1}, {Integer.MIN_VALUE, 0, 0, 1}, {0, Integer.MAX_VALUE, 0, 1},
            {0, 0, Integer.MIN_VALUE, 1}, {0, 0, 0, Integer.MAX_VALUE},
        };
        for (int[] a : wrong) {
            check.due("alarm of wrong inputs", x.alarm(a[0], a[1], a[2], a[3]), -2);
        }
        check.due("count(1)", x.count(1), 0);
        check.due("alarm(0, 0, 0, 1)", x.alarm(0, 0, 0, 1), 0);
        check.due("alarm(9, 39, 4095, 100)", x.alarm(9, 39, 4095, 100), 1);
        check.due("count(1)", x.count(1), 2);
    }

    private static void repeats() {
        CryOrder x = new CryOrder();
        check.due("alarm", x.alarm(1, 2, 3, 50), 0);
        check.due("another worth is a repeat", x.alarm(1, 2, 3, 70), 0);
        check.due("worth stays", x.told(0, 4), 50);
        check.due("unlike source", x.alarm(2, 2, 3, 50), 1);
        check.due("unlike thing", x.alarm(1, 3, 3, 50), 2);
        check.due("unlike marks", x.alarm(1, 2, 4, 50), 3);
        x.pass(10);
        check.due("10 after it came", x.alarm(1, 2, 3, 50), 0);
        check.due("when it came stays", x.told(0, 0), 0);
        x.pass(10);
        check.due("10 after it was repeated", x.alarm(1, 2, 3, 50), 0);
        check.due("told(0, 5)", x.told(0, 5), 3);
        x.pass(11);
        check.due("11 after it was repeated", x.alarm(1, 2, 3, 50), 4);
        check.due("told(4, 5)", x.told(4, 5), 0);
        check.due("told(4, 0)", x.told(4, 0), 31);
    }

    private static void repeatsOfTheLatest() {
        CryOrder x = new CryOrder();
        x.alarm(1, 2, 3, 50);
        x.pass(11);
        x.alarm(1, 2, 3, 50);
        x.pass(5);
        check.due("the latest is repeated", x.alarm(1, 2, 3, 50), 1);
        check.due("told(0, 5)", x.told(0, 5), 0);
        check.due("told(1, 5)", x.told(1, 5), 1);
    }

    private static void noRepeatOfSettledSilencedCapped() {
        CryOrder x = new CryOrder();
        x.alarm(1, 2, 3, 50);
        x.verdict(0, 0, false);
        check.due("one verdict leaves it OPEN", x.alarm(1, 2, 3, 50), 0);
        x.verdict(0, 1, false);
        check.due("SETTLED ones aren't repeated", x.alarm(1, 2, 3, 50), 1);
        x.silence(4, 0, 0);
        check.due("SILENCED", x.alarm(4, 0, 0, 1), 2);
        check.due("SILENCED ones aren't repeated", x.alarm(4, 0, 0, 1), 3);
        x.set(0, 1);
        check.due("within the CAP", x.alarm(5, 0, 0, 1), 4);
        check.due("CAPPED", x.alarm(5, 1, 0, 1), 5);
        check.due("CAPPED ones aren't repeated", x.alarm(5, 1, 0, 1), 6);
        check.due("within the CAP is repeated", x.alarm(5, 0, 0, 1), 4);
    }

    private static void repeatComesAheadOfSilence() {
        CryOrder x = new CryOrder();
        x.alarm(1, 2, 3, 50);
        x.silence(1, 0, 100);
        check.due("folded though silence reigns", x.alarm(1, 2, 3, 50), 0);
        check.due("told(0, 7)", x.told(0, 7), 0);
        check.due("told(0, 5)", x.told(0, 5), 1);
    }

    private static void caps() {
        CryOrder x = new CryOrder();
        x.set(0, 2);
        x.alarm(0, 0, 0, 1);
        x.alarm(0, 1, 0, 1);
        x.alarm(0, 2, 0, 1);
        x.alarm(1, 0, 0, 1);
        check.due("second within the CAP", x.told(1, 8), 0);
        check.due("third beyond the CAP", x.told(2, 8), 1);
        check.due("another source has its own", x.told(3, 8), 0);
        x.pass(9);
        x.alarm(0, 3, 0, 1);
        check.due("9 later the CAP is full still", x.told(4, 8), 1);
        x.pass(1);
        x.alarm(0, 4, 0, 1);
        check.due("10 later it isn't", x.told(5, 8), 0);
        x.verdict(5, 0, true);
        x.verdict(5, 1, true);
        x.alarm(0, 5, 0, 1);
        x.alarm(0, 6, 0, 1);
        check.due("a SETTLED one came, too", x.told(6, 8), 0);
        check.due("and fills the CAP", x.told(7, 8), 1);
        x.set(0, 50);
        check.due("a new CAP leaves the old ones", x.told(7, 8), 1);

        CryOrder y = new CryOrder();
        y.set(0, 1);
        y.silence(3, 0, 0);
        y.alarm(3, 0, 0, 1);
        y.alarm(3, 1, 0, 1);
        check.due("SILENCED", y.told(1, 7), 1);
        check.due("SILENCED ones aren't CAPPED", y.told(1, 8), 0);
        y.pass(1);
        y.alarm(3, 2, 0, 1);
        check.due("SILENCED ones don't fill the CAP", y.told(2, 8), 0);
        y.alarm(3, 2, 0, 1);
        check.due("repeated", y.told(2, 5), 1);
        y.alarm(3, 3, 0, 1);
        check.due("CAPPED", y.told(3, 8), 1);
        y.pass(9);
        y.alarm(3, 2, 0, 1);
        check.due("repeated at 10", y.told(2, 5), 2);
        y.pass(1);
        y.alarm(3, 4, 0, 1);
        check.due("a repeat isn't one that came", y.told(4, 8), 0);
    }

    private static void room() {
        CryOrder x = new CryOrder();
        for (int i = 0; i < 200; i++) {
            check.due("alarm " + i, x.alarm(i % 10, i % 40, i, 1), i);
        }
        check.due("alarm 200", x.alarm(0, 0, 4000, 1), -3);
        check.due("wrong inputs at 200", x.alarm(0, 0, 4000, 0), -2);
        check.due("a repeat at 200", x.alarm(9, 39, 199, 1), 199);
        check.due("told(199, 5)", x.told(199, 5), 1);
        check.due("count(1)", x.count(1), 200);
        check.due("node(4, 4000, 2)", x.node(4, 4000, 2), 0);
        x.pass(11);
        check.due("no repeat at 200", x.alarm(9, 39, 199, 1), -3);
    }
}
