/** Promise 13: slow. */
public final class SlowTest {
    private static final Check check = new Check("SlowTest");

    public static void main(String[] args) {
        limits();
        reach();
        hushedAndSettledOnes();
        check.end();
    }

    private static void limits() {
        CryOrder x = new CryOrder();
        int[] wrong = {-1, 40, Integer.MAX_VALUE, Integer.MIN_VALUE};
        for (int thing : wrong) {
            check.due("slow(" + thing + ")", x.slow(thing), -1);
        }
        // 1,000 times 19 by 2: 9,500; three are 28,500.
        x.alarm(0, 5, 0, 19);
        x.alarm(1, 5, 0, 19);
        x.alarm(2, 5, 0, 19);
        x.alarm(3, 5, 0, 3);
        check.due("30,000 isn't above", x.slow(5), -1);
        x.alarm(4, 5, 0, 1);
        check.due("30,500 is", x.slow(5), 30500);
        check.due("another THING", x.slow(6), -1);
        x.alarm(5, 5, 0, 20);
        check.due("one has 10,000", x.slow(5), -1);
        x.verdict(5, 0, true);
        check.due("it's OPEN still", x.slow(5), -1);
    }

    private static void reach() {
        CryOrder x = new CryOrder();
        x.alarm(9, 5, 0, 20);
        x.pass(1);
        for (int i = 0; i < 4; i++) {
            x.alarm(i, 5, 0, 18);
        }
        x.pass(198);
        check.due("the loud one came 199 ago", x.slow(5), -1);
        x.pass(1);
        check.due("the loud one came 200 ago", x.slow(5), 36000);
        x.pass(1);
        check.due("all came 200 ago", x.slow(5), -1);
    }

    private static void hushedAndSettledOnes() {
        CryOrder x = new CryOrder();
        x.silence(9, 0, 0);
        for (int i = 0; i < 4; i++) {
            x.alarm(i, 5, 0, 18);
        }
        x.alarm(9, 5, 0, 100);
        check.due("a SILENCED one counts not", x.slow(5), 36000);
        x.set(0, 1);
        x.alarm(0, 5, 1, 100);
        check.due("a CAPPED one counts not", x.slow(5), 36000);
        x.alarm(3, 5, 0, 18);
        check.due("a repeat adds nothing", x.slow(5), 36000);
        x.alarm(8, 5, 0, 100);
        check.due("a loud one", x.slow(5), -1);
        x.verdict(6, 0, true);
        x.verdict(6, 1, true);
        check.due("SETTLED: ODDS 1 by 1 now", x.slow(5), -1);
        check.due("told(0, 9)", x.told(0, 9), 18000);
        x.verdict(4, 0, false);
        x.verdict(4, 1, false);
        check.due("ODDS 1 by 2 again, and the loud one is gone", x.slow(5), 36000);
    }
}
