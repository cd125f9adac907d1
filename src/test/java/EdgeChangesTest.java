/** Promises 1 to 7: what a new object holds, each bound of a call that changes it, and that a refused one doesn't. */
public final class EdgeChangesTest {
    private static final Check check = new Check("EdgeChangesTest");
    private static final int LEAST = Integer.MIN_VALUE;
    private static final int MOST = Integer.MAX_VALUE;

    public static void main(String[] args) {
        newObjectHoldsNothing();
        newObjectsAreApart();
        passFromOneToAThousand();
        passOfAnotherN();
        passAboveTheLastTime();
        alarmAnswersItsNumber();
        alarmNotAsTold();
        alarmWhenThereAreTwoHundred();
        alarmRepeatedWhenThereAreTwoHundred();
        silenceAnswersHowMany();
        silenceNotAsTold();
        silenceWhenThirtyAreThere();
        setWithinItsBounds();
        setNotAsTold();
        verdictOpenOrSettled();
        verdictNotAsTold();
        verdictOfASettledOne();
        verdictOfALookerWhoGaveOne();
        tieInPlaceOfWhatWas();
        tieOfNoSuchUnlikeOnes();
        tieThatIsSo();
        tieWhenSixtyAreTold();
        check.end();
    }

    private static Run run(String sentence) {
        return new Run(check, sentence);
    }

    /** A past in which a little of everything is there: repeats, silences, caps, verdicts and ties. */
    private static Run lived(String sentence) {
        Run r = run(sentence);
        r.play("set", 0, 3);
        r.play("set", 1, 2);
        r.play("set", 2, 1);
        r.play("silence", 3, 0, 20);
        for (int i = 0; i < 12; i++) {
            r.play("alarm", i % 4, i % 5, i % 3 * 64 + i % 2, 10 + i);
        }
        r.play("alarm", 0, 0, 0, 10);
        r.play("pass", 7);
        r.play("verdict", 0, 0, 1);
        r.play("verdict", 0, 1, 1);
        r.play("verdict", 1, 0, 1);
        r.play("verdict", 2, 2, 0);
        r.play("verdict", 2, 3, 0);
        r.play("verdict", 3, 4, 1);
        r.play("tie", 4, 5, 1);
        r.play("tie", 5, 10, 0);
        r.play("alarm", 5, 1, 65, 100);
        return r;
    }

    private static void newObjectHoldsNothing() {
        Run r = run("Promise 1: NOW is 0; no ALARMS");
        for (int what = 0; what <= 5; what++) {
            r.due(0, "count", what);
        }
        for (int source = 0; source <= 9; source++) {
            r.due(0, "source", source, 0);
        }
        r.due(-1, "told", 0, 0).due(-1, "odds", 0, 0).due(-1, "order", 0).due(-1, "caseOf", 0, 0);
        r.due(0, "node", 0, 0, 2).due(0, "node", 4, 4095, 2).due(-1, "slow", 0).due(0, "plan", 300, -1);
        r.due(0, "worth", 300, 0).due(0, "worth", 300, 1).due(0, "worth", 300, 2);
        r.refused(-1, "verdict", 0, 0, 1).refused(0, "tie", 0, 1, 1).refused(0, "tie", 0, 0, 1);
    }

    private static void newObjectsAreApart() {
        Run first = run("Promise 1: two objects, the first");
        Run second = run("Promise 1: two objects, the second");
        first.due(0, "alarm", 0, 0, 0, 1).due(5, "pass", 5).due(1, "silence", 0, 0, 9);
        second.due(0, "count", 0).due(0, "count", 1).due(0, "count", 4).due(0, "node", 0, 0, 2);
        second.due(0, "alarm", 0, 0, 0, 1).due(0, "told", 0, 7);
    }

    private static void passFromOneToAThousand() {
        Run r = run("Promise 2: NOW goes on by n (1 to 1,000): it");
        r.due(1, "pass", 1).due(1, "count", 0).due(1001, "pass", 1000).due(1001, "count", 0);
        r.due(1003, "pass", 2).due(2002, "pass", 999);
    }

    private static void passOfAnotherN() {
        Run r = lived("Promise 2: NONE, doing nothing: another n");
        r.refused(-1, "pass", 0).refused(-1, "pass", 1001).refused(-1, "pass", -1);
        r.refused(-1, "pass", LEAST).refused(-1, "pass", MOST).refused(-1, "pass", 10000);
        r.due(7, "count", 0).due(8, "pass", 1);
    }

    private static void passAboveTheLastTime() {
        Run r = lived("Promise 2: NONE, doing nothing: above 10,000");
        for (int i = 1; i <= 9; i++) {
            r.due(7 + i * 1000, "pass", 1000);
        }
        r.refused(-1, "pass", 1000).refused(-1, "pass", 994).due(9007, "count", 0);
        r.due(10000, "pass", 993);
        r.refused(-1, "pass", 1).refused(-1, "pass", 1000).refused(-1, "pass", MOST).due(10000, "count", 0);
        r.due(13, "alarm", 9, 9, 9, 9).due(10000, "told", 13, 0);
    }

    private static void alarmAnswersItsNumber() {
        Run r = run("Promise 3: its number; if another one is REPEATED that one's");
        r.due(0, "alarm", 0, 0, 0, 1).due(1, "alarm", 1, 0, 0, 1);
        r.due(0, "alarm", 0, 0, 0, 1).due(1, "alarm", 1, 0, 0, 1).due(2, "alarm", 2, 0, 0, 1);
        r.due(3, "count", 1);
    }

    private static void alarmNotAsTold() {
        Run r = lived("Promise 3: -2, doing nothing: not as told");
        int[][] wrong = {{-1, 0, 0, 1}, {10, 0, 0, 1}, {0, -1, 0, 1}, {0, 40, 0, 1}, {0, 0, -1, 1}, {0, 0, 4096, 1},
            {0, 0, 0, 0}, {0, 0, 0, 101}, {0, 0, 0, -1}, {LEAST, 0, 0, 1}, {MOST, 0, 0, 1}, {0, LEAST, 0, 1},
            {0, MOST, 0, 1}, {0, 0, LEAST, 1}, {0, 0, MOST, 1}, {0, 0, 0, LEAST}, {0, 0, 0, MOST},
            {-1, -1, -1, 0}};
        for (int[] args : wrong) {
            r.refused(-2, "alarm", args);
        }
        r.due(13, "count", 1).due(13, "alarm", 9, 39, 4095, 100);
    }

    private static Run twoHundred(String sentence) {
        Run r = run(sentence);
        for (int i = 0; i < 200; i++) {
            r.due(i, "alarm", i % 10, i % 40, i, 1 + i % 100);
        }
        return r;
    }

    private static void alarmWhenThereAreTwoHundred() {
        Run r = twoHundred("Promise 3: -3: there are 200");
        r.refused(-3, "alarm", 0, 0, 4095, 1).refused(-3, "alarm", 9, 39, 200, 100);
        r.refused(-2, "alarm", 10, 0, 4095, 1).refused(-2, "alarm", 0, 0, 4095, 0);
        // Room isn't made by time or by verdicts.
        r.due(0, "verdict", 0, 0, 1).due(1, "verdict", 0, 1, 1).due(11, "pass", 11);
        r.refused(-3, "alarm", 0, 0, 0, 1).refused(-3, "alarm", 9, 39, 199, 1).due(200, "count", 1);
    }

    private static void alarmRepeatedWhenThereAreTwoHundred() {
        Run r = twoHundred("Promise 3: if another one is REPEATED that one's, with 200 there");
        r.due(199, "alarm", 9, 39, 199, 1).due(1, "told", 199, 5).due(0, "alarm", 0, 0, 0, 1).due(1, "told", 0, 5);
        r.due(200, "count", 1).due(10, "pass", 10).due(5, "alarm", 5, 5, 5, 1).due(11, "pass", 1);
        r.due(5, "alarm", 5, 5, 5, 1).due(2, "told", 5, 5);
        r.refused(-3, "alarm", 6, 6, 6, 1).due(200, "count", 1);
    }

    private static void silenceAnswersHowMany() {
        Run r = run("Promise 4: a SILENCE (0 <= from <= to <= 10,000): how many");
        r.due(1, "silence", 0, 0, 0).due(2, "silence", 9, 0, 10000).due(3, "silence", 5, 10000, 10000);
        r.due(4, "silence", 5, 10000, 10000).due(5, "silence", 5, 4, 5).due(5, "count", 4);
    }

    private static void silenceNotAsTold() {
        Run r = lived("Promise 4: NONE, doing nothing: not as told");
        int[][] wrong = {{-1, 0, 9}, {10, 0, 9}, {LEAST, 0, 9}, {MOST, 0, 9}, {5, -1, 9}, {5, -1, -1}, {5, 0, -1},
            {5, 1, 0}, {5, 8, 7}, {5, 0, 10001}, {5, 10001, 10001}, {5, 10000, 9999}, {5, 10001, 10000},
            {5, LEAST, MOST}, {5, MOST, LEAST}, {5, MOST, MOST}, {5, LEAST, LEAST}, {5, 0, MOST}, {5, LEAST, 9}};
        for (int[] args : wrong) {
            r.refused(-1, "silence", args);
        }
        r.due(1, "count", 4).due(13, "alarm", 5, 0, 0, 1).due(0, "told", 13, 7);
        r.due(2, "silence", 5, 7, 7).due(14, "alarm", 5, 1, 0, 1).due(1, "told", 14, 7);
    }

    private static void silenceWhenThirtyAreThere() {
        Run r = lived("Promise 4: NONE, doing nothing: 30 are there");
        for (int i = 2; i <= 30; i++) {
            r.due(i, "silence", i % 3, 9000 + i, 9000 + i);
        }
        r.refused(-1, "silence", 5, 0, 10000).refused(-1, "silence", 0, 9030, 9030).refused(-1, "silence", -1, 0, 0);
        // Silences of the past stay there.
        r.due(107, "pass", 100).refused(-1, "silence", 5, 0, 10000).due(30, "count", 4);
        r.due(13, "alarm", 5, 0, 0, 1).due(0, "told", 13, 7);
    }

    private static void setWithinItsBounds() {
        Run r = run("Promise 5: CAP (what 0; 1 to 50), N (1; 1 to 20), TRY (2; 0 to 5): true");
        int[][] right = {{0, 1}, {0, 2}, {0, 49}, {0, 50}, {1, 1}, {1, 2}, {1, 19}, {1, 20}, {2, 0}, {2, 1}, {2, 4},
            {2, 5}};
        for (int[] args : right) {
            r.due(1, "set", args).due(1, "set", args);
        }
    }

    private static void setNotAsTold() {
        Run r = lived("Promise 5: false: not as told");
        int[][] wrong = {{0, 0}, {0, 51}, {0, -1}, {1, 0}, {1, 21}, {1, -1}, {2, -1}, {2, 6}, {-1, 1}, {3, 1}, {3, 0},
            {0, LEAST}, {0, MOST}, {1, LEAST}, {1, MOST}, {2, LEAST}, {2, MOST}, {LEAST, 1}, {MOST, 1}};
        for (int[] args : wrong) {
            r.refused(0, "set", args);
        }
    }

    private static void verdictOpenOrSettled() {
        Run r = run("Promise 6: 0 still OPEN, 1 it's SETTLED by it");
        r.due(0, "alarm", 0, 0, 0, 1).due(1, "alarm", 0, 1, 0, 1);
        r.due(0, "verdict", 0, 0, 1).due(0, "told", 0, 6).due(2, "count", 2);
        r.due(1, "verdict", 0, 9, 1).due(1, "told", 0, 6).due(1, "count", 2);
        r.due(0, "verdict", 1, 9, 0).due(0, "verdict", 1, 0, 1).due(0, "told", 1, 6);
        r.due(1, "verdict", 1, 5, 0).due(2, "told", 1, 6).due(0, "count", 2);
        Run hushed = run("Promise 6: an ALARM that is SILENCED, one that is CAPPED");
        hushed.due(1, "silence", 9, 0, 0).due(1, "set", 0, 1);
        hushed.due(0, "alarm", 9, 0, 0, 1).due(1, "alarm", 0, 0, 0, 1).due(2, "alarm", 0, 1, 0, 1);
        hushed.due(0, "verdict", 0, 0, 1).due(1, "verdict", 0, 1, 1).due(1, "told", 0, 6);
        hushed.due(0, "verdict", 2, 0, 0).due(1, "verdict", 2, 1, 0).due(2, "told", 2, 6);
    }

    private static void verdictNotAsTold() {
        Run r = lived("Promise 6: NONE, doing nothing: not as told");
        int[][] wrong = {{-1, 9}, {13, 9}, {200, 9}, {LEAST, 9}, {MOST, 9}, {1, -1}, {1, 10}, {1, 31}, {1, 32},
            {1, 33}, {1, LEAST}, {1, MOST}, {-1, -1}, {13, 10}};
        for (int[] args : wrong) {
            r.refused(-1, "verdict", args[0], args[1], 1).refused(-1, "verdict", args[0], args[1], 0);
        }
        r.due(0, "verdict", 12, 9, 1).due(1, "verdict", 1, 9, 1);
    }

    private static void verdictOfASettledOne() {
        Run r = lived("Promise 6: NONE, doing nothing: SETTLED");
        for (int looker : new int[] {0, 1, 2, 9}) {
            r.refused(-1, "verdict", 0, looker, 1).refused(-1, "verdict", 0, looker, 0);
            r.refused(-1, "verdict", 2, looker, 1).refused(-1, "verdict", 2, looker, 0);
        }
        r.due(2, "told", 0, 11).due(1, "told", 0, 6).due(2, "told", 2, 11).due(2, "told", 2, 6);
    }

    private static void verdictOfALookerWhoGaveOne() {
        Run r = lived("Promise 6: NONE, doing nothing: that LOOKER gave one");
        r.refused(-1, "verdict", 1, 0, 1).refused(-1, "verdict", 1, 0, 0);
        r.refused(-1, "verdict", 3, 4, 1).refused(-1, "verdict", 3, 4, 0);
        r.due(1, "told", 1, 11).due(0, "told", 1, 6);
        r.due(0, "verdict", 1, 9, 0).refused(-1, "verdict", 1, 9, 1).refused(-1, "verdict", 1, 0, 1);
        r.due(1, "verdict", 1, 8, 1).due(3, "told", 1, 11);
    }

    private static void tieInPlaceOfWhatWas() {
        Run r = lived("Promise 7: JOINED (joined true) or PARTED, in place of what was: true");
        r.due(2, "count", 5).due(1, "tie", 4, 5, 0).due(2, "count", 5).due(1, "tie", 5, 4, 1).due(2, "count", 5);
        r.due(1, "tie", 4, 10, 1).due(3, "count", 5).due(1, "tie", 0, 12, 0).due(4, "count", 5);
    }

    private static void tieOfNoSuchUnlikeOnes() {
        Run r = lived("Promise 7: false, doing nothing: no such unlike ones");
        int[][] wrong = {{0, 0}, {12, 12}, {0, 13}, {13, 0}, {13, 13}, {13, 14}, {-1, 0}, {0, -1}, {-1, -1}, {200, 0},
            {0, 200}, {LEAST, 0}, {0, LEAST}, {MOST, 0}, {0, MOST}, {LEAST, MOST}};
        for (int[] args : wrong) {
            r.refused(0, "tie", args[0], args[1], 1).refused(0, "tie", args[0], args[1], 0);
        }
        r.due(2, "count", 5).due(1, "tie", 0, 12, 1);
    }

    private static void tieThatIsSo() {
        Run r = lived("Promise 7: false, doing nothing: it's so");
        r.refused(0, "tie", 4, 5, 1).refused(0, "tie", 5, 4, 1);
        r.refused(0, "tie", 5, 10, 0).refused(0, "tie", 10, 5, 0);
        r.due(1, "tie", 10, 5, 1).refused(0, "tie", 5, 10, 1).due(2, "count", 5);
        // Two of one CASE that were never told of may be JOINED still: it isn't told so.
        Run near = run("Promise 7: in one CASE, but not told so");
        near.due(0, "alarm", 0, 0, 0, 1).due(1, "alarm", 1, 0, 0, 1).due(2, "alarm", 1, 1, 0, 1);
        near.due(1, "tie", 0, 1, 1).due(1, "tie", 0, 2, 0).due(2, "count", 5);
        near.refused(0, "tie", 1, 0, 1).refused(0, "tie", 2, 0, 0);
    }

    private static void tieWhenSixtyAreTold() {
        Run r = run("Promise 7: false, doing nothing: 60 such are told");
        for (int i = 0; i < 62; i++) {
            r.due(i, "alarm", i % 10, i % 40, i, 1 + i);
        }
        for (int i = 0; i < 59; i++) {
            r.due(1, "tie", i, i + 1, i % 2);
        }
        r.due(59, "count", 5).due(1, "tie", 0, 61, 1).due(60, "count", 5);
        r.refused(0, "tie", 0, 60, 1).refused(0, "tie", 60, 61, 0).refused(0, "tie", 2, 0, 1);
        r.refused(0, "tie", 61, 0, 1).refused(0, "tie", 61, 61, 1).refused(0, "tie", 62, 0, 1);
        // A told pair takes no new room; SETTLED ones keep theirs.
        r.due(1, "tie", 61, 0, 0).due(60, "count", 5).due(1, "tie", 1, 0, 1).due(60, "count", 5);
        r.due(0, "verdict", 0, 0, 1).due(1, "verdict", 0, 1, 1).due(60, "count", 5);
        r.refused(0, "tie", 0, 60, 1);
    }
}
