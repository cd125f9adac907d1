/** Promise 15: worth. */
public final class WorthTest {
    private static final Check check = new Check("WorthTest");

    public static void main(String[] args) {
        CryOrder x = new CryOrder();
        int[] wrong = {-1, 301, Integer.MAX_VALUE, Integer.MIN_VALUE};
        for (int w : wrong) {
            check.due("worth(" + w + ", 0)", x.worth(w, 0), -1);
        }
        int[] none = {-1, 3, Integer.MAX_VALUE, Integer.MIN_VALUE};
        for (int w : none) {
            check.due("worth(10, " + w + ")", x.worth(10, w), -1);
        }
        look(x, 0, 0, 0, 0);
        for (int thing = 0; thing < 14; thing++) {
            x.alarm(0, thing, 0, 50 - thing);
        }
        x.alarm(1, 0, 0, 2);
        // SCORES 25,000 down to 18,500 by 500; number 0 needs 9 minutes.
        look(x, 0, 0, 304500, 0);
        look(x, 6, 0, 304500, 0);
        look(x, 7, 24500, 280000, 7);
        look(x, 9, 25000, 279500, 9);
        look(x, 15, 48500, 256000, 14);
        look(x, 16, 49500, 255000, 16);
        look(x, 300, 267000, 37500, 86);
        x.set(2, 5);
        look(x, 300, 304500, 0, 100);
        x.set(2, 1);
        look(x, 300, 286000, 18500, 93);
        check.end();
    }

    private static void look(CryOrder x, int minutes, int taken, int left, int used) {
        check.due("worth(" + minutes + ", 0)", x.worth(minutes, 0), taken);
        check.due("worth(" + minutes + ", 1)", x.worth(minutes, 1), left);
        check.due("worth(" + minutes + ", 2)", x.worth(minutes, 2), used);
    }
}
