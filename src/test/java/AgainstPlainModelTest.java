/** All promises: runs of calls by fixed seeds, answered by the class and by the plain model. */
public final class AgainstPlainModelTest {
    private static final int RUNS = 160;
    private static final int CALLS = 512;

    public static void main(String[] args) {
        Check check = new Check("AgainstPlainModelTest");
        for (int run = 0; run < RUNS; run++) {
            Caller caller = new Caller(run);
            CryOrder x = new CryOrder();
            PlainModel y = new PlainModel();
            for (int i = 0; i < CALLS; i++) {
                Call call = caller.next();
                int want = call.on(y);
                check.due("run " + run + " call " + i + " " + call, call.on(x), want);
                caller.hear(call, want);
            }
        }
        check.end();
    }
}
