/** Promises 8 to 17: each bound of a call that asks, and that asking changes nothing. */
public final class EdgeQuestionsTest {
    private static final Check check = new Check("EdgeQuestionsTest");
    private static final int LEAST = Integer.MIN_VALUE;
    private static final int MOST = Integer.MAX_VALUE;

    public static void main(String[] args) {
        toldOfNoneSuch();
        toldOfEveryKind();
        toldCase();
        nodeOfNoneSuch();
        nodeOfAllMarks();
        oddsOfNoneSuch();
        oddsOfSettledSilencedCapped();
        orderOfNoneSuch();
        orderOfTwoHundred();
        caseOfNoneSuch();
        caseOfItsAlarms();
        caseOfTwoHundred();
        slowOfNoSuchThing();
        planNotAsTold();
        planNoneSuch();
        planOfSeventeen();
        worthNotAsTold();
        worthOfNothingAndAll();
        sourceOfNoneSuch();
        sourceCounts();
        countOfOthers();
        countsWithTwoHundred();
        check.end();
    }

    private static Run run(String sentence) {
        return new Run(check, sentence);
    }

    private static void settle(Run r, int alarm, int is) {
        r.due(0, "verdict", alarm, 0, is).due(1, "verdict", alarm, 1, is);
    }

    /** Three alarms, of which the first two are of one case. */
    private static Run three(String sentence) {
        Run r = run(sentence);
        r.due(0, "alarm", 1, 7, 100, 40).due(1, "alarm", 2, 7, 200, 60).due(2, "alarm", 3, 8, 300, 20);
        return r;
    }

    private static void toldOfNoneSuch() {
        Run r = three("Promise 8: NONE: none such");
        for (int alarm : new int[] {-1, 3, 4, 199, 200, LEAST, MOST}) {
            for (int what = -1; what <= 13; what++) {
                r.due(-1, "told", alarm, what);
            }
        }
        for (int what : new int[] {-1, 13, 14, LEAST, MOST}) {
            r.refused(-1, "told", 0, what).refused(-1, "told", 2, what);
        }
        r.due(0, "told", 2, 0).due(2, "told", 2, 12);
    }

    private static void toldOfEveryKind() {
        Run r = run("Promise 8: of an ALARM");
        r.due(1, "set", 0, 1).due(1, "silence", 9, 3, 3).due(3, "pass", 3);
        r.due(0, "alarm", 9, 39, 4095, 100).due(1, "alarm", 0, 0, 0, 1).due(2, "alarm", 0, 1, 0, 2);
        r.due(1, "alarm", 0, 0, 0, 99).due(0, "verdict", 2, 9, 0);
        int[][] want = {{3, 9, 39, 4095, 100, 0, 0, 1, 0, 50000, 0, 0, -1},
            {3, 0, 0, 0, 1, 1, 0, 0, 0, 500, 0, 0, 1}, {3, 0, 1, 0, 2, 0, 0, 0, 1, 1000, 0, 1, -1}};
        for (int alarm = 0; alarm < want.length; alarm++) {
            for (int what = 0; what <= 12; what++) {
                r.due(want[alarm][what], "told", alarm, what);
            }
        }
        settle(r, 0, 1);
        r.due(1, "verdict", 2, 8, 0);
        r.due(1, "told", 0, 6).due(2, "told", 2, 6).due(2, "told", 0, 11).due(50000, "told", 0, 9);
        r.due(1, "told", 0, 7).due(1, "told", 2, 8);
    }

    private static void toldCase() {
        Run r = three("Promise 8: its CASE (NONE)");
        r.due(0, "told", 0, 12).due(0, "told", 1, 12).due(2, "told", 2, 12);
        settle(r, 0, 0);
        r.due(-1, "told", 0, 12).due(1, "told", 1, 12);
    }

    private static void nodeOfNoneSuch() {
        Run r = three("Promise 9: NONE: none such");
        int[][] wrong = {{-1, 100, 0}, {5, 100, 0}, {LEAST, 100, 0}, {MOST, 100, 0}, {0, -1, 0}, {0, 4096, 0},
            {0, LEAST, 0}, {0, MOST, 0}, {4, -1, 2}, {4, 4096, 2}, {0, 100, -1}, {0, 100, 3}, {4, 100, LEAST},
            {4, 100, MOST}};
        for (int[] args : wrong) {
            r.refused(-1, "node", args);
        }
        r.due(3, "node", 0, 0, 2).due(3, "node", 0, 4095, 2).due(1, "node", 4, 100, 2);
        r.due(0, "node", 4, 0, 0).due(0, "node", 4, 4095, 2);
    }

    private static void nodeOfAllMarks() {
        Run r = three("Promise 9: of the NODE of depth d of MARKS");
        // 100 is 0 1 4 4, 200 is 0 3 1 0, 300 is 0 4 5 4.
        r.due(3, "node", 1, 511, 2).due(0, "node", 1, 512, 2).due(1, "node", 2, 64, 2).due(1, "node", 2, 127, 2);
        r.due(0, "node", 2, 63, 2).due(0, "node", 2, 128, 2).due(1, "node", 3, 96, 2).due(1, "node", 3, 103, 2);
        r.due(0, "node", 3, 95, 2).due(0, "node", 3, 104, 2).due(0, "node", 4, 99, 2).due(0, "node", 4, 101, 2);
    }

    private static void oddsOfNoneSuch() {
        Run r = three("Promise 10: NONE: none such");
        for (int alarm : new int[] {-1, 3, 199, 200, LEAST, MOST}) {
            for (int what = 0; what <= 5; what++) {
                r.due(-1, "odds", alarm, what);
            }
        }
        for (int what : new int[] {-1, 6, LEAST, MOST}) {
            r.refused(-1, "odds", 0, what).refused(-1, "odds", 2, what);
        }
        r.due(1, "odds", 2, 0).due(1, "odds", 2, 5);
    }

    private static void oddsOfSettledSilencedCapped() {
        Run r = run("Promise 10: an ALARM's ODDS, whatever it is");
        r.due(1, "set", 0, 1).due(1, "silence", 9, 0, 0);
        r.due(0, "alarm", 9, 0, 0, 1).due(1, "alarm", 0, 0, 0, 1).due(2, "alarm", 0, 1, 0, 1);
        settle(r, 1, 1);
        for (int alarm = 0; alarm < 3; alarm++) {
            int[] want = {1, 1, 1, 3, 1, 1};
            for (int what = 0; what <= 5; what++) {
                r.due(want[what], "odds", alarm, what);
            }
        }
    }

    private static void orderOfNoneSuch() {
        Run r = three("Promise 11: NONE: none such");
        r.due(0, "order", 0).due(2, "order", 1);
        for (int k : new int[] {-1, 2, 3, 199, 200, LEAST, MOST}) {
            r.refused(-1, "order", k);
        }
    }

    private static void orderOfTwoHundred() {
        Run r = run("Promise 11: the k-th CASE of 200");
        for (int i = 0; i < 200; i++) {
            if (i > 0 && i % 40 == 0) {
                r.play("pass", 21);
            }
            r.due(i, "alarm", i % 10, i % 40, 0, 1 + i % 100);
        }
        r.due(200, "count", 3).due(99, "order", 0).due(199, "order", 1).due(0, "order", 198).due(100, "order", 199);
        r.due(-1, "order", 200);
    }

    private static void caseOfNoneSuch() {
        Run r = three("Promise 12: NONE: none such");
        for (int number : new int[] {-1, 1, 3, 199, 200, LEAST, MOST}) {
            for (int what : new int[] {0, 1, 2, 3, 10}) {
                r.due(-1, "caseOf", number, what);
            }
        }
        for (int what : new int[] {-1, 4, 9, 12, 13, 209, 210, LEAST, MOST}) {
            r.refused(-1, "caseOf", 0, what);
        }
        r.due(1, "caseOf", 0, 11).due(-1, "caseOf", 2, 11).due(2, "caseOf", 2, 10);
        settle(r, 2, 1);
        r.due(-1, "caseOf", 2, 0).due(-1, "caseOf", 2, 10);
    }

    private static void caseOfItsAlarms() {
        Run r = run("Promise 12: 10 + k its k-th ALARM by numbers");
        int[] things = {0, 1, 0, 1, 2, 0};
        for (int i = 0; i < things.length; i++) {
            r.due(i, "alarm", i, things[i], 0, 10);
        }
        r.due(1, "tie", 5, 4, 1).due(1, "tie", 4, 3, 1).due(1, "tie", 5, 0, 0);
        int[] want = {0, 1, 2, 3, 4, 5, -1};
        for (int k = 0; k < want.length; k++) {
            r.due(want[k], "caseOf", 0, 10 + k);
        }
        settle(r, 4, 1);
        r.due(0, "caseOf", 0, 10).due(2, "caseOf", 0, 11).due(5, "caseOf", 0, 12).due(-1, "caseOf", 0, 13);
        r.due(1, "caseOf", 1, 10).due(3, "caseOf", 1, 11).due(-1, "caseOf", 1, 12);
        r.due(3, "caseOf", 0, 0).due(2, "caseOf", 1, 0);
    }

    private static void caseOfTwoHundred() {
        Run r = run("Promise 12: a CASE of 200");
        for (int i = 0; i < 200; i++) {
            r.due(i, "alarm", i % 10, 7, i, 1 + i % 100);
        }
        r.due(1, "count", 3).due(200, "caseOf", 0, 0).due(50000, "caseOf", 0, 1).due(405, "caseOf", 0, 2);
        r.due(0, "caseOf", 0, 10).due(199, "caseOf", 0, 209).due(-1, "caseOf", 0, 210).due(0, "plan", 300, -1);
    }

    private static void slowOfNoSuchThing() {
        Run r = run("Promise 13: NONE: it isn't, or no such THING");
        for (int i = 0; i < 8; i++) {
            r.due(i, "alarm", i, i < 4 ? 0 : 39, 0, 18);
        }
        r.due(36000, "slow", 0).due(36000, "slow", 39).due(-1, "slow", 1).due(-1, "slow", 38);
        for (int thing : new int[] {-1, 40, LEAST, MOST}) {
            r.refused(-1, "slow", thing);
        }
    }

    private static void planNotAsTold() {
        Run r = three("Promise 14: NONE: not as told");
        for (int minutes : new int[] {-1, 301, LEAST, MOST}) {
            r.refused(-1, "plan", minutes, -1).refused(-1, "plan", minutes, 0);
        }
        r.due(0, "plan", 0, -1).due(-1, "plan", 0, 0).due(2, "plan", 300, -1);
    }

    private static void planNoneSuch() {
        Run r = three("Promise 14: NONE: none such");
        r.due(0, "plan", 300, 0).due(2, "plan", 300, 1);
        for (int k : new int[] {-2, 2, 3, 11, 12, 17, 200, LEAST, MOST}) {
            r.refused(-1, "plan", 300, k);
        }
        r.due(1, "plan", 15, -1).due(0, "plan", 15, 0).due(-1, "plan", 15, 1).due(0, "plan", 6, -1);
    }

    private static void planOfSeventeen() {
        Run r = run("Promise 14: those tried first, then the set in ORDER");
        r.due(1, "set", 1, 1).due(1, "set", 2, 5).due(0, "alarm", 9, 39, 0, 1);
        settle(r, 0, 1);
        for (int i = 0; i < 13; i++) {
            r.due(1 + i, "alarm", 0, i, 1, 99 - i);
        }
        for (int i = 0; i < 6; i++) {
            r.due(14 + i, "alarm", 1, 20 + i, 4095, 9 - i);
        }
        r.due(17, "plan", 300, -1);
        for (int k = 0; k < 17; k++) {
            r.due(k < 5 ? 14 + k : k - 4, "plan", 300, k);
        }
        r.due(-1, "plan", 300, 17).due(17, "plan", 119, -1).due(16, "plan", 118, -1);
        r.due(119, "worth", 300, 2).due(91000, "worth", 300, 1);
    }

    private static void worthNotAsTold() {
        Run r = three("Promise 15: NONE: not as told");
        for (int minutes : new int[] {-1, 301, LEAST, MOST}) {
            r.refused(-1, "worth", minutes, 0).refused(-1, "worth", minutes, 2);
        }
        for (int what : new int[] {-1, 3, LEAST, MOST}) {
            r.refused(-1, "worth", 0, what).refused(-1, "worth", 300, what);
        }
        r.due(40000, "worth", 300, 0).due(0, "worth", 300, 1).due(16, "worth", 300, 2);
    }

    private static void worthOfNothingAndAll() {
        Run r = three("Promise 15: the sum of SCORES taken, of those not taken, MINUTES");
        int[][] want = {{0, 0, 40000, 0}, {6, 0, 40000, 0}, {7, 10000, 30000, 7}, {8, 10000, 30000, 7},
            {9, 30000, 10000, 9}, {15, 30000, 10000, 9}, {16, 40000, 0, 16}, {300, 40000, 0, 16}};
        for (int[] each : want) {
            for (int what = 0; what <= 2; what++) {
                r.due(each[1 + what], "worth", each[0], what);
            }
        }
        r.due(1, "set", 2, 1).due(30000, "worth", 9, 0).due(10000, "worth", 8, 0).due(0, "worth", 6, 0);
        Run none = run("Promise 15: without CASES");
        none.due(0, "worth", 300, 0).due(0, "worth", 300, 1).due(0, "worth", 300, 2);
    }

    private static void sourceOfNoneSuch() {
        Run r = three("Promise 16: NONE: none such");
        for (int source : new int[] {-1, 10, LEAST, MOST}) {
            r.refused(-1, "source", source, 0).refused(-1, "source", source, 6);
        }
        for (int what : new int[] {-1, 7, LEAST, MOST}) {
            r.refused(-1, "source", 1, what).refused(-1, "source", 9, what);
        }
        r.due(1, "source", 1, 0).due(0, "source", 0, 0).due(0, "source", 9, 6);
    }

    private static void source(Run r, int source, int... want) {
        for (int what = 0; what <= 6; what++) {
            r.due(want[what], "source", source, what);
        }
    }

    private static void sourceCounts() {
        for (int s : new int[] {0, 9}) {
            Run r = run("Promise 16: of SOURCE " + s);
            r.due(1, "set", 0, 2).due(1, "silence", s, 1, 1);
            r.due(0, "alarm", s, 0, 0, 1);
            source(r, s, 1, 0, 0, 0, 0, 0, 0);
            r.due(0, "alarm", s, 0, 0, 1);
            source(r, s, 1, 1, 0, 0, 0, 0, 0);
            r.due(1, "alarm", s, 1, 0, 1).due(2, "alarm", s, 2, 0, 1).due(3, "alarm", s, 3, 0, 1);
            source(r, s, 4, 1, 0, 2, 0, 0, 0);
            r.due(1, "pass", 1).due(4, "alarm", s, 4, 0, 1).due(5, "alarm", s, 5, 0, 1).due(6, "alarm", s, 6, 0, 1);
            source(r, s, 7, 1, 3, 2, 0, 0, 0);
            settle(r, 0, 1);
            settle(r, 1, 0);
            source(r, s, 7, 1, 3, 2, 1, 1, 0);
            settle(r, 2, 1);
            source(r, s, 7, 1, 3, 2, 2, 1, 1);
            settle(r, 3, 0);
            source(r, s, 7, 1, 3, 2, 2, 2, 1);
            settle(r, 4, 1);
            settle(r, 5, 0);
            source(r, s, 7, 1, 3, 2, 3, 3, 2);
            r.due(0, "verdict", 6, 0, 1);
            source(r, s, 7, 1, 3, 2, 3, 3, 2);
            source(r, 9 - s, 0, 0, 0, 0, 0, 0, 0);
        }
    }

    private static void countOfOthers() {
        Run r = three("Promise 17: NONE for others");
        for (int what : new int[] {-1, 6, 7, LEAST, MOST}) {
            r.refused(-1, "count", what);
        }
        r.due(0, "count", 0).due(3, "count", 1).due(3, "count", 2).due(2, "count", 3).due(0, "count", 4);
        r.due(0, "count", 5).due(1, "tie", 0, 1, 0).due(1, "tie", 0, 2, 1).due(2, "count", 5).due(2, "count", 3);
        settle(r, 1, 1);
        r.due(3, "count", 1).due(2, "count", 2).due(1, "count", 3).due(2, "count", 5);
    }

    private static void countsWithTwoHundred() {
        Run r = run("Promise 17: counts when there are 200, SILENCED ones among them");
        r.due(1, "silence", 9, 0, 0);
        for (int i = 0; i < 200; i++) {
            r.due(i, "alarm", i < 100 ? i % 9 : 9, i % 40, i, 1);
        }
        r.due(200, "count", 1).due(200, "count", 2).due(40, "count", 3).due(1, "count", 4);
        for (int i = 100; i < 200; i++) {
            settle(r, i, i % 2);
        }
        r.due(200, "count", 1).due(100, "count", 2).due(50, "source", 9, 6).due(100, "source", 9, 2);
    }
}
