/** Promise 14: plan. */
public final class PlanTest {
    private static final Check check = new Check("PlanTest");

    public static void main(String[] args) {
        wrongInputs();
        greatestSum();
        severalSets();
        nothingStaysOfEarlierPlans();
        twelveOnly();
        tries();
        check.end();
    }

    private static void wrongInputs() {
        CryOrder x = new CryOrder();
        x.alarm(0, 0, 0, 10);
        int[] wrong = {-1, 301, Integer.MAX_VALUE, Integer.MIN_VALUE};
        for (int w : wrong) {
            check.due("plan(" + w + ", -1)", x.plan(w, -1), -1);
            check.due("plan(" + w + ", 0)", x.plan(w, 0), -1);
        }
        check.due("plan(300, -1)", x.plan(300, -1), 1);
        check.due("plan(300, 0)", x.plan(300, 0), 0);
        int[] none = {-2, 1, 17, 200, Integer.MAX_VALUE, Integer.MIN_VALUE};
        for (int k : none) {
            check.due("plan(300, " + k + ")", x.plan(300, k), -1);
        }
        check.due("plan(0, -1)", x.plan(0, -1), 0);
        check.due("plan(6, -1)", x.plan(6, -1), 0);
        check.due("plan(7, -1)", x.plan(7, -1), 1);
    }

    /** Makes one case of so many alarms of a worth, by unlike sources. */
    private static void makeCase(CryOrder x, int thing, int size, int worth) {
        for (int i = 0; i < size; i++) {
            x.alarm(i, thing, 0, worth);
        }
    }

    private static void look(CryOrder x, int minutes, int... want) {
        check.due("plan(" + minutes + ", -1)", x.plan(minutes, -1), want.length);
        for (int k = 0; k < want.length; k++) {
            check.due("plan(" + minutes + ", " + k + ")", x.plan(minutes, k), want[k]);
        }
        check.due("plan(" + minutes + ", " + want.length + ")", x.plan(minutes, want.length), -1);
    }

    private static void greatestSum() {
        CryOrder x = new CryOrder();
        makeCase(x, 0, 5, 90);   // number 0: 15 minutes, 45,000
        makeCase(x, 1, 1, 50);   // number 5: 7 minutes, 25,000
        makeCase(x, 2, 2, 60);   // number 6: 9 minutes, 30,000
        look(x, 6);
        look(x, 8, 5);
        look(x, 9, 6);
        look(x, 15, 0);
        look(x, 16, 6, 5);
        look(x, 22, 0, 5);
        look(x, 24, 0, 6);
        look(x, 30, 0, 6);
        look(x, 31, 0, 6, 5);
    }

    private static void severalSets() {
        CryOrder x = new CryOrder();
        for (int thing = 0; thing < 4; thing++) {
            makeCase(x, thing, 1, 10);
        }
        look(x, 14, 0, 1);
        look(x, 21, 0, 1, 2);
        x.alarm(0, 20, 0, 20);
        // Number 4 has the worth of two, and comes first in ORDER.
        look(x, 7, 4);
        look(x, 14, 4, 0);

        // 20 for 9 minutes stands against 10 and 10 for 7 each: later ones aren't taken if they needn't.
        CryOrder y = new CryOrder();
        makeCase(y, 0, 5, 20);
        makeCase(y, 1, 1, 10);
        makeCase(y, 2, 1, 10);
        look(y, 15, 0);
        look(y, 14, 5, 6);

        // SCORE 0 needn't be taken at all.
        CryOrder z = new CryOrder();
        z.set(1, 1);
        z.alarm(0, 0, 0, 10);
        z.alarm(0, 1, 0, 10);
        z.verdict(0, 0, false);
        z.verdict(0, 1, false);
        check.due("caseOf(1, 1)", z.caseOf(1, 1), 0);
        look(z, 300);
    }

    private static void nothingStaysOfEarlierPlans() {
        CryOrder x = new CryOrder();
        for (int thing = 0; thing < 4; thing++) {
            makeCase(x, thing, 1, 10);
        }
        look(x, 14, 0, 1);
        x.verdict(0, 0, false);
        x.verdict(0, 1, false);
        look(x, 14);
        x.alarm(1, 1, 0, 90);
        x.verdict(2, 0, true);
        x.verdict(2, 1, true);
        look(x, 14, 1);
        look(x, 16, 1, 3);
    }

    private static void twelveOnly() {
        CryOrder x = new CryOrder();
        for (int thing = 0; thing < 14; thing++) {
            x.alarm(0, thing, 0, 50 - thing);
        }
        look(x, 300, 0, 1, 2, 3, 4, 5, 6, 7, 8, 9, 10, 11);
        x.set(2, 1);
        look(x, 300, 0, 1, 2, 3, 4, 5, 6, 7, 8, 9, 10, 11, 12);
        x.set(2, 5);
        look(x, 300, 0, 1, 2, 3, 4, 5, 6, 7, 8, 9, 10, 11, 12, 13);
        look(x, 28, 0, 1, 2, 3);
    }

    private static void tries() {
        CryOrder x = new CryOrder();
        x.set(1, 1);
        x.alarm(0, 39, 0, 1);
        x.verdict(0, 0, true);
        x.verdict(0, 1, true);
        x.alarm(0, 0, 1, 90);      // number 1: known, 90,000, 7 minutes
        x.alarm(0, 1, 1, 80);      // number 2: known, 80,000, 7 minutes
        makeLittleKnown(x, 2, 3, 30);  // number 3: little known, 30,000, 11 minutes
        makeLittleKnown(x, 3, 1, 20);  // number 6: little known, 20,000, 7 minutes
        makeLittleKnown(x, 4, 1, 10);  // number 7: little known, 10,000, 7 minutes
        check.due("caseOf(1, 3)", x.caseOf(1, 3), 0);
        check.due("caseOf(3, 3)", x.caseOf(3, 3), 1);
        check.due("caseOf(3, 1)", x.caseOf(3, 1), 30000);
        look(x, 14, 1, 2);
        x.set(2, 1);
        look(x, 18, 3, 1);
        look(x, 25, 3, 1, 2);
        look(x, 32, 3, 1, 2, 6);
        // The first that is little known doesn't fit: the next one is tried.
        look(x, 10, 6);
        look(x, 6);
        x.set(2, 2);
        look(x, 14, 3);
        look(x, 18, 3, 6);
        look(x, 25, 3, 6, 1);
        x.set(2, 5);
        look(x, 25, 3, 6, 7);
        look(x, 32, 3, 6, 7, 1);
    }

    private static void makeLittleKnown(CryOrder x, int thing, int size, int worth) {
        for (int i = 0; i < size; i++) {
            x.alarm(i, thing, 512 * (1 + i) + 64 * thing, worth);
        }
    }
}
