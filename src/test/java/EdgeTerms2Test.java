/** 'Terms', part 2, sentence by sentence: nodes, odds, spans and scores at their bounds. */
public final class EdgeTerms2Test {
    private static final Check check = new Check("EdgeTerms2Test");
    /** All four marks are 1, so that each has a lesser and a greater neighbour. */
    private static final int ONES = 585;
    private static final int[] WEIGHTS = {512, 64, 8, 1};

    public static void main(String[] args) {
        depthsZeroToFour();
        firstMarksOfANode();
        settledAsTrueSettledAndOpen();
        silencedAndCappedOnesCount();
        leastIsThreeAtFirst();
        leastFromOneToTwenty();
        deepestWithEnough();
        nodesFollowVerdictsAndLeast();
        noneHasEnough();
        oddsWithoutAnySettled();
        oddsInLowestTerms();
        spanWithoutSettledAndWithoutOpen();
        spanBetween();
        scoreIsCut();
        scoreLeastAndGreatest();
        check.end();
    }

    private static Run run(String sentence) {
        return new Run(check, sentence);
    }

    /** So many alarms of one leaf, each of another thing or source, so that none is folded. */
    private static void fill(Run r, int from, int to, int marks, int worth) {
        for (int i = from; i < to; i++) {
            r.due(i, "alarm", i / 40, i % 40, marks, worth);
        }
    }

    private static void settle(Run r, int alarm, int is) {
        r.due(0, "verdict", alarm, 0, is).due(1, "verdict", alarm, 1, is);
    }

    private static void odds(Run r, int alarm, int... want) {
        for (int what = 0; what < want.length; what++) {
            r.due(want[what], "odds", alarm, what);
        }
    }

    private static void node(Run r, int depth, int marks, int... want) {
        for (int what = 0; what < want.length; what++) {
            r.due(want[what], "node", depth, marks, what);
        }
    }

    private static void depthsZeroToFour() {
        Run r = run("NODES of depth d (0 to 4)");
        fill(r, 0, 1, ONES, 1);
        for (int depth = 0; depth <= 4; depth++) {
            node(r, depth, ONES, 0, 0, 1);
        }
        node(r, -1, ONES, -1, -1, -1);
        node(r, 5, ONES, -1, -1, -1);
    }

    private static void firstMarksOfANode() {
        Run r = run("by the first d MARKS");
        fill(r, 0, 1, ONES, 1);
        for (int i = 0; i < 4; i++) {
            for (int depth = 0; depth <= 4; depth++) {
                int counted = depth <= i ? 1 : 0;
                r.due(counted, "node", depth, ONES - WEIGHTS[i], 2);
                r.due(counted, "node", depth, ONES + WEIGHTS[i], 2);
            }
        }
        r.due(1, "node", 1, 512, 2).due(1, "node", 1, 1023, 2).due(0, "node", 1, 511, 2).due(0, "node", 1, 1024, 2);
    }

    private static void settledAsTrueSettledAndOpen() {
        Run r = run("SETTLED as true t, SETTLED at all n, and OPEN o");
        node(r, 4, ONES, 0, 0, 0);
        fill(r, 0, 3, ONES, 1);
        node(r, 4, ONES, 0, 0, 3);
        r.due(0, "verdict", 0, 5, 1);
        node(r, 4, ONES, 0, 0, 3);
        r.due(0, "verdict", 0, 6, 0);
        node(r, 4, ONES, 0, 0, 3);
        r.due(1, "verdict", 0, 7, 1);
        node(r, 4, ONES, 1, 1, 2);
        settle(r, 1, 0);
        node(r, 4, ONES, 1, 2, 1);
        settle(r, 2, 1);
        node(r, 4, ONES, 2, 3, 0);
        node(r, 0, 0, 2, 3, 0);
        node(r, 4, 0, 0, 0, 0);
    }

    private static void silencedAndCappedOnesCount() {
        Run r = run("SILENCED and CAPPED ones count, too");
        r.due(1, "set", 0, 1).due(1, "silence", 9, 0, 0);
        r.due(0, "alarm", 0, 0, ONES, 1).due(1, "alarm", 0, 1, ONES, 1).due(2, "alarm", 9, 0, ONES, 1);
        r.due(1, "told", 1, 8).due(1, "told", 2, 7);
        node(r, 4, ONES, 0, 0, 3);
        settle(r, 1, 1);
        node(r, 4, ONES, 1, 1, 2);
        settle(r, 2, 0);
        node(r, 4, ONES, 1, 2, 1);
        r.due(1, "set", 1, 2).due(4, "told", 0, 10).due(500, "told", 0, 9);
    }

    private static void leastIsThreeAtFirst() {
        Run r = run("n at least N (3 at first)");
        fill(r, 0, 4, ONES, 1);
        settle(r, 0, 1);
        settle(r, 1, 1);
        r.due(0, "told", 3, 10);
        settle(r, 2, 1);
        r.due(4, "told", 3, 10);
        r.due(1, "set", 1, 4).due(0, "told", 3, 10).due(1, "set", 1, 3).due(4, "told", 3, 10);
        r.refused(0, "set", 1, 0).refused(0, "set", 1, 21).due(4, "told", 3, 10);
    }

    private static void leastFromOneToTwenty() {
        for (int least : new int[] {1, 2, 19, 20}) {
            Run r = run("n at least N: " + least);
            r.due(1, "set", 1, least);
            fill(r, 0, least + 1, ONES, 1);
            for (int i = 0; i < least; i++) {
                r.due(0, "told", least, 10);
                settle(r, i, i % 2);
            }
            r.due(4, "told", least, 10).due(4, "told", 0, 10);
            odds(r, least, least == 1 ? 0 : least == 19 ? 9 : 1, least == 1 ? 1 : least == 19 ? 19 : 2);
        }
    }

    private static void deepestWithEnough() {
        for (int depth = 0; depth <= 3; depth++) {
            Run r = run("the deepest one of its MARKS with n at least N: depth " + depth);
            r.due(1, "set", 1, 2);
            fill(r, 0, 1, ONES, 10);
            fill(r, 1, 4, ONES + WEIGHTS[depth], 10);
            settle(r, 1, 1);
            r.due(0, "told", 0, 10);
            settle(r, 2, 0);
            r.due(depth, "told", 0, 10).due(4, "told", 3, 10).due(5000, "told", 0, 9);
        }
        Run r = run("the deepest of several with n at least N");
        r.due(1, "set", 1, 2);
        fill(r, 0, 3, ONES, 10);
        fill(r, 3, 5, ONES + 1, 10);
        settle(r, 3, 0);
        settle(r, 0, 1);
        r.due(3, "told", 2, 10).due(5000, "told", 2, 9);
        settle(r, 1, 1);
        r.due(4, "told", 2, 10).due(10000, "told", 2, 9).due(3, "told", 4, 10).due(6666, "told", 4, 9);
    }

    private static void nodesFollowVerdictsAndLeast() {
        Run r = run("The NODE of an ALARM, as counts and N are now");
        fill(r, 0, 3, ONES, 20);
        r.due(10000, "told", 2, 9).due(10000, "caseOf", 2, 1).due(1, "caseOf", 2, 3);
        r.due(1, "set", 1, 1);
        settle(r, 0, 0);
        r.due(0, "told", 2, 9).due(0, "caseOf", 2, 1).due(0, "caseOf", 2, 3).due(4, "told", 0, 10);
        r.due(1, "set", 1, 2).due(1, "caseOf", 2, 3);
    }

    private static void noneHasEnough() {
        Run r = run("none has: depth 0");
        r.due(1, "set", 1, 20);
        fill(r, 0, 3, ONES, 30);
        settle(r, 0, 1);
        r.due(0, "told", 2, 10).due(30000, "told", 2, 9);
        odds(r, 2, 1, 1, 1, 3, 1, 1);
        settle(r, 1, 0);
        r.due(0, "told", 2, 10).due(15000, "told", 2, 9);
        odds(r, 2, 1, 2, 1, 3, 2, 3);
    }

    private static void oddsWithoutAnySettled() {
        Run none = run("1 by 2 if n is 0");
        fill(none, 0, 2, ONES, 7);
        odds(none, 1, 1, 2);
        none.due(3500, "told", 1, 9);
        none.due(0, "verdict", 0, 0, 1);
        odds(none, 1, 1, 2);
        Run yes = run("t by n: n is 1, t is 1");
        fill(yes, 0, 2, ONES, 7);
        settle(yes, 0, 1);
        odds(yes, 1, 1, 1);
        yes.due(7000, "told", 1, 9);
        Run no = run("t by n: n is 1, t is 0");
        fill(no, 0, 2, ONES, 7);
        settle(no, 0, 0);
        odds(no, 1, 0, 1);
        no.due(0, "told", 1, 9);
    }

    private static void oddsInLowestTerms() {
        Run r = run("ODDS in lowest terms");
        fill(r, 0, 13, ONES, 1);
        int[] is = {0, 1, 1, 0, 1, 1, 0, 0, 0, 1, 1, 1};
        int[][] want = {{0, 1}, {1, 2}, {2, 3}, {1, 2}, {3, 5}, {2, 3}, {4, 7}, {1, 2}, {4, 9}, {1, 2}, {6, 11},
            {7, 12}};
        for (int i = 0; i < is.length; i++) {
            settle(r, i, is[i]);
            odds(r, 12, want[i]);
        }
    }

    private static void spanWithoutSettledAndWithoutOpen() {
        Run r = run("Their SPAN: nothing SETTLED, and nothing OPEN");
        fill(r, 0, 1, ONES, 1);
        odds(r, 0, 1, 2, 0, 1, 1, 1);
        settle(r, 0, 0);
        odds(r, 0, 0, 1, 0, 1, 0, 1);
        Run yes = run("Their SPAN: nothing OPEN, all true");
        fill(yes, 0, 1, ONES, 1);
        settle(yes, 0, 1);
        odds(yes, 0, 1, 1, 1, 1, 1, 1);
    }

    private static void spanBetween() {
        Run r = run("t by n and o, and t and o by n and o");
        fill(r, 0, 8, ONES, 1);
        settle(r, 0, 1);
        odds(r, 7, 1, 1, 1, 8, 1, 1);
        settle(r, 1, 0);
        odds(r, 7, 1, 2, 1, 8, 7, 8);
        settle(r, 2, 1);
        settle(r, 3, 0);
        odds(r, 7, 1, 2, 1, 4, 3, 4);
        // The SPAN is that of the ALARM's NODE, not that of the whole tree.
        fill(r, 8, 9, 0, 1);
        r.due(0, "told", 8, 10).due(4, "told", 7, 10);
        odds(r, 7, 1, 2, 1, 4, 3, 4);
        odds(r, 8, 1, 2, 2, 9, 7, 9);
    }

    private static void scoreIsCut() {
        Run r = run("SCORE: 1,000 times its WORTH times its ODDS, cut");
        fill(r, 0, 7, ONES, 1);
        fill(r, 7, 8, ONES, 2);
        fill(r, 8, 9, ONES, 100);
        settle(r, 0, 1);
        settle(r, 1, 0);
        settle(r, 2, 0);
        r.due(333, "told", 6, 9).due(666, "told", 7, 9).due(33333, "told", 8, 9);
        settle(r, 3, 1);
        settle(r, 4, 1);
        settle(r, 5, 1);
        r.due(666, "told", 6, 9).due(1333, "told", 7, 9).due(66666, "told", 8, 9);
        settle(r, 6, 1);
        r.due(714, "told", 6, 9).due(1428, "told", 7, 9).due(71428, "told", 8, 9);
    }

    private static void scoreLeastAndGreatest() {
        Run r = run("SCORE of the least and the greatest WORTH");
        r.due(0, "alarm", 0, 0, ONES, 1).due(1, "alarm", 0, 1, ONES, 100).due(2, "alarm", 0, 2, ONES, 50);
        r.due(500, "told", 0, 9).due(50000, "told", 1, 9);
        settle(r, 2, 1);
        r.due(1000, "told", 0, 9).due(100000, "told", 1, 9).due(50000, "told", 2, 9);
        r.due(100000, "caseOf", 1, 1);
        settle(r, 1, 0);
        r.due(500, "told", 0, 9).due(50000, "told", 1, 9);

        Run no = run("SCORE 0");
        no.due(0, "alarm", 0, 0, ONES, 1).due(1, "alarm", 0, 1, ONES, 100).due(2, "alarm", 0, 2, ONES, 50);
        settle(no, 2, 0);
        no.due(0, "told", 0, 9).due(0, "told", 1, 9).due(0, "caseOf", 1, 1).due(0, "order", 0).due(1, "order", 1);
    }
}
