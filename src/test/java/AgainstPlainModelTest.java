import java.util.Random;

/** All promises: runs of calls by fixed seeds, answered by the class and by the plain model. */
public final class AgainstPlainModelTest {
    private static final int RUNS = 120;
    private static final int CALLS = 512;
    private static final int[] ODD = {Integer.MIN_VALUE, -3, -2, -1, 0, 1, 5, 10, 13, 20, 21, 40, 50, 51, 60, 101,
        200, 300, 301, 4096, 10001, Integer.MAX_VALUE};

    private final Check check;
    private final Random random;
    private final CryOrder x = new CryOrder();
    private final PlainModel y = new PlainModel();
    /** How many kinds of source, thing and mark a run draws from: few give many repeats and deep nodes. */
    private final int sources;
    private final int things;
    private final int markKinds;
    private final int longestPass;
    private final int asking;

    private AgainstPlainModelTest(Check check, long seed) {
        this.check = check;
        this.random = new Random(seed);
        this.sources = 1 + random.nextInt(10);
        this.things = 1 + random.nextInt(40);
        this.markKinds = 1 + random.nextInt(seed % 3 == 0 ? 8 : 2);
        int[] passes = {1, 3, 12, 40, 1000};
        this.longestPass = passes[random.nextInt(passes.length)];
        this.asking = 20 + random.nextInt(60);
    }

    public static void main(String[] args) {
        Check check = new Check("AgainstPlainModelTest");
        for (int run = 0; run < RUNS; run++) {
            AgainstPlainModelTest test = new AgainstPlainModelTest(check, run);
            for (int call = 0; call < CALLS; call++) {
                test.call("run " + run + " call " + call + " ");
            }
        }
        check.end();
    }

    /** Mostly one below the bound, now and then one that stands at or beyond an edge. */
    private int number(int bound) {
        return random.nextInt(40) == 0 ? ODD[random.nextInt(ODD.length)] : random.nextInt(bound);
    }

    private int someAlarm() {
        return number(Math.max(1, x.count(1)));
    }

    private int someMarks() {
        int marks = 0;
        for (int i = 0; i < 4; i++) {
            marks = marks * 8 + random.nextInt(markKinds);
        }
        return random.nextInt(40) == 0 ? number(5000) : marks;
    }

    private void call(String at) {
        if (random.nextInt(100) < asking) {
            ask(at);
        } else {
            change(at);
        }
    }

    private void change(String at) {
        int a = someAlarm();
        int b = someAlarm();
        boolean is = random.nextInt(3) != 0;
        switch (random.nextInt(16)) {
            case 0, 1 -> {
                int n = random.nextInt(20) == 0 ? number(1001) : 1 + random.nextInt(longestPass);
                check.due(at + "pass(" + n + ")", x.pass(n), y.pass(n));
            }
            case 2, 3, 4, 5, 6, 7, 8 -> {
                int source = number(sources);
                int thing = number(things);
                int marks = someMarks();
                int worth = random.nextBoolean() ? 1 + random.nextInt(19) : number(101);
                check.due(at + "alarm(" + source + ", " + thing + ", " + marks + ", " + worth + ")",
                        x.alarm(source, thing, marks, worth), y.alarm(source, thing, marks, worth));
            }
            case 9 -> {
                int source = number(sources);
                int from = Math.max(0, x.count(0) + random.nextInt(30) - 10);
                int to = from + number(20);
                if (random.nextInt(4) == 0) {
                    check.due(at + "silence(" + source + ", " + from + ", " + to + ")",
                            x.silence(source, from, to), y.silence(source, from, to));
                }
            }
            case 10 -> {
                int what = number(3);
                int value = random.nextBoolean() ? 1 + random.nextInt(5) : number(51);
                check.due(at + "set(" + what + ", " + value + ")", x.set(what, value), y.set(what, value));
            }
            case 11, 12, 13, 14 -> {
                int looker = number(10);
                check.due(at + "verdict(" + a + ", " + looker + ", " + is + ")",
                        x.verdict(a, looker, is), y.verdict(a, looker, is));
            }
            default -> {
                boolean joined = random.nextBoolean();
                check.due(at + "tie(" + a + ", " + b + ", " + joined + ")",
                        x.tie(a, b, joined), y.tie(a, b, joined));
            }
        }
    }

    private void ask(String at) {
        int a = someAlarm();
        int k = number(Math.max(1, x.count(3) + 1));
        int minutes = random.nextBoolean() ? number(60) : number(301);
        switch (random.nextInt(12)) {
            case 0, 1 -> {
                int what = number(13);
                check.due(at + "told(" + a + ", " + what + ")", x.told(a, what), y.told(a, what));
            }
            case 2 -> {
                int d = number(5);
                int marks = someMarks();
                int what = number(3);
                check.due(at + "node(" + d + ", " + marks + ", " + what + ")",
                        x.node(d, marks, what), y.node(d, marks, what));
            }
            case 3 -> {
                int what = number(6);
                check.due(at + "odds(" + a + ", " + what + ")", x.odds(a, what), y.odds(a, what));
            }
            case 4 -> check.due(at + "order(" + k + ")", x.order(k), y.order(k));
            case 5, 6 -> {
                int number = random.nextInt(4) == 0 ? a : x.order(k);
                int what = random.nextBoolean() ? number(4) : 10 + number(5);
                check.due(at + "caseOf(" + number + ", " + what + ")",
                        x.caseOf(number, what), y.caseOf(number, what));
            }
            case 7 -> {
                int thing = number(things);
                check.due(at + "slow(" + thing + ")", x.slow(thing), y.slow(thing));
            }
            case 8 -> askWholePlan(at, minutes);
            case 9 -> {
                int what = number(3);
                check.due(at + "worth(" + minutes + ", " + what + ")", x.worth(minutes, what), y.worth(minutes, what));
            }
            case 10 -> {
                int source = number(sources);
                int what = number(7);
                check.due(at + "source(" + source + ", " + what + ")", x.source(source, what), y.source(source, what));
            }
            default -> {
                int what = number(6);
                check.due(at + "count(" + what + ")", x.count(what), y.count(what));
            }
        }
    }

    private void askWholePlan(String at, int minutes) {
        int many = x.plan(minutes, -1);
        check.due(at + "plan(" + minutes + ", -1)", many, y.plan(minutes, -1));
        if (random.nextInt(4) == 0) {
            for (int k = 0; k <= many; k++) {
                check.due(at + "plan(" + minutes + ", " + k + ")", x.plan(minutes, k), y.plan(minutes, k));
            }
        }
    }
}
