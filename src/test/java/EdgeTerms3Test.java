/** 'Terms', part 3, sentence by sentence: cases, order, slow burns and plans at their bounds. */
public final class EdgeTerms3Test {
    private static final Check check = new Check("EdgeTerms3Test");

    public static void main(String[] args) {
        casesOfOpenOnes();
        casesOfThoseNotSilencedOrCapped();
        atMostTwentyApart();
        apartByWhenTheyCame();
        ofOneThing();
        joinedAsTold();
        partedAsTold();
        partedButAChainLeadsThere();
        chainsGoOverSuchOnly();
        numberScoreAndMinutes();
        orderByScoreThenNumber();
        slowIsAboveThirtyThousand();
        slowOfThirtyThousandAndOne();
        slowHasNoneOfTenThousand();
        slowLooksAtTheLatestTwoHundred();
        slowOfOpenOnesOfOneThing();
        planForMinutes();
        planFitsToTheMinute();
        planOfACaseAtThreeHundred();
        triesAreNoneAtFirst();
        asManyAsTryTells();
        triesFitToTheMinute();
        triesInOrder();
        littleKnownBySomeAlarm();
        firstTwelveOthers();
        littleKnownOnesNotTakenAreAmongTheOthers();
        greatestSumThatFits();
        lastOnesAreNotTakenIfTheyNeedNot();
        check.end();
    }

    private static Run run(String sentence) {
        return new Run(check, sentence);
    }

    private static void settle(Run r, int alarm, int is) {
        r.due(0, "verdict", alarm, 0, is).due(1, "verdict", alarm, 1, is);
    }

    private static void cases(Run r, int... want) {
        for (int alarm = 0; alarm < want.length; alarm++) {
            r.due(want[alarm], "told", alarm, 12);
        }
    }

    private static void plan(Run r, int minutes, int... want) {
        r.due(want.length, "plan", minutes, -1);
        for (int k = 0; k < want.length; k++) {
            r.due(want[k], "plan", minutes, k);
        }
        r.due(-1, "plan", minutes, want.length);
    }

    private static void casesOfOpenOnes() {
        Run r = run("CASES: of the OPEN ALARMS");
        r.due(0, "count", 3).due(-1, "order", 0);
        r.due(0, "alarm", 0, 7, 0, 10).due(1, "count", 3).due(0, "order", 0);
        r.due(0, "verdict", 0, 0, 1).due(1, "count", 3).due(0, "told", 0, 12);
        r.due(1, "verdict", 0, 1, 1).due(0, "count", 3).due(-1, "told", 0, 12).due(-1, "order", 0);
    }

    private static void casesOfThoseNotSilencedOrCapped() {
        Run r = run("CASES: of those that aren't SILENCED or CAPPED");
        r.due(1, "silence", 9, 0, 0).due(1, "set", 0, 1);
        r.due(0, "alarm", 9, 7, 0, 10).due(0, "count", 3).due(-1, "told", 0, 12).due(-1, "caseOf", 0, 0);
        r.due(1, "alarm", 0, 7, 0, 10).due(2, "alarm", 0, 7, 1, 10).due(1, "told", 2, 8);
        cases(r, -1, 1, -1);
        r.due(1, "count", 3).due(1, "caseOf", 1, 0);
    }

    private static void atMostTwentyApart() {
        Run inside = run("at most 20 apart");
        inside.due(0, "alarm", 0, 7, 0, 10).due(20, "pass", 20).due(1, "alarm", 0, 7, 0, 10);
        cases(inside, 0, 0);
        Run outside = run("21 apart");
        outside.due(0, "alarm", 0, 7, 0, 10).due(21, "pass", 21).due(1, "alarm", 0, 7, 0, 10);
        cases(outside, 0, 1);
        Run chain = run("a chain leads from one to the other");
        chain.due(0, "alarm", 0, 7, 0, 10).due(20, "pass", 20).due(1, "alarm", 0, 7, 0, 10);
        chain.due(40, "pass", 20).due(2, "alarm", 0, 7, 0, 10).due(61, "pass", 21).due(3, "alarm", 0, 7, 0, 10);
        cases(chain, 0, 0, 0, 3);
    }

    private static void apartByWhenTheyCame() {
        Run r = run("apart by when they came, not by when they were repeated");
        r.due(0, "alarm", 0, 7, 0, 10).due(10, "pass", 10).due(0, "alarm", 0, 7, 0, 10);
        r.due(20, "pass", 10).due(0, "alarm", 0, 7, 0, 10).due(21, "pass", 1).due(1, "alarm", 1, 7, 0, 10);
        cases(r, 0, 1);
    }

    private static void ofOneThing() {
        Run r = run("of one THING");
        r.due(0, "alarm", 0, 0, 0, 10).due(1, "alarm", 0, 1, 0, 10).due(2, "alarm", 9, 0, 4095, 100);
        r.due(3, "alarm", 0, 39, 0, 10).due(4, "alarm", 0, 38, 0, 10).due(5, "alarm", 9, 39, 4095, 100);
        cases(r, 0, 1, 0, 3, 4, 3);
    }

    private static void joinedAsTold() {
        Run r = run("each pair JOINED (as told)");
        r.due(0, "alarm", 0, 0, 0, 10).due(500, "pass", 500).due(1, "alarm", 0, 1, 0, 10);
        cases(r, 0, 1);
        r.due(1, "tie", 1, 0, 1);
        cases(r, 0, 0);
        r.due(1, "tie", 0, 1, 0);
        cases(r, 0, 1);
    }

    private static void partedAsTold() {
        Run r = run("not PARTED (as told)");
        r.due(0, "alarm", 0, 0, 0, 10).due(1, "alarm", 1, 0, 0, 10);
        cases(r, 0, 0);
        r.due(1, "tie", 1, 0, 0);
        cases(r, 0, 1);
        r.due(1, "tie", 1, 0, 1);
        cases(r, 0, 0);
    }

    private static void partedButAChainLeadsThere() {
        Run r = run("PARTED, and a chain leads from one to the other");
        r.due(0, "alarm", 0, 0, 0, 10).due(1, "alarm", 1, 0, 0, 10).due(2, "alarm", 2, 0, 0, 10);
        r.due(1, "tie", 0, 2, 0);
        cases(r, 0, 0, 0);
        r.due(1, "tie", 1, 2, 0);
        cases(r, 0, 0, 2);
        r.due(1, "tie", 0, 1, 0);
        cases(r, 0, 1, 2);
        r.due(3, "alarm", 0, 1, 0, 10).due(1, "tie", 3, 2, 1).due(1, "tie", 0, 3, 1);
        cases(r, 0, 1, 0, 0);
    }

    private static void chainsGoOverSuchOnly() {
        Run r = run("a chain of such: OPEN, not SILENCED or CAPPED");
        r.due(1, "silence", 9, 20, 20).due(1, "set", 0, 1);
        r.due(0, "alarm", 0, 7, 0, 10).due(20, "pass", 20);
        r.due(1, "alarm", 9, 7, 0, 10).due(2, "alarm", 1, 0, 0, 10).due(3, "alarm", 1, 7, 0, 10);
        r.due(4, "alarm", 2, 7, 0, 10).due(40, "pass", 20).due(5, "alarm", 0, 7, 0, 10);
        cases(r, 0, -1, 2, -1, 0, 0);
        settle(r, 4, 1);
        cases(r, 0, -1, 2, -1, -1, 5);
        // Told ones lead nowhere either, unless both ends are such.
        r.due(1, "tie", 0, 1, 1).due(1, "tie", 1, 5, 1).due(1, "tie", 0, 3, 1).due(1, "tie", 3, 5, 1);
        r.due(1, "tie", 0, 4, 1).due(1, "tie", 4, 5, 1);
        cases(r, 0, -1, 2, -1, -1, 5);
        r.due(1, "tie", 0, 2, 1).due(1, "tie", 2, 5, 1);
        cases(r, 0, -1, 0, -1, -1, 0);
    }

    private static void numberScoreAndMinutes() {
        Run r = run("number: its least ALARM's; SCORE: the greatest; MINUTES: 5, and 2 for each");
        r.due(0, "alarm", 0, 0, 0, 10).due(1, "alarm", 0, 7, 0, 30).due(7, "caseOf", 1, 2).due(15000, "caseOf", 1, 1);
        r.due(2, "alarm", 1, 7, 0, 29).due(9, "caseOf", 1, 2).due(15000, "caseOf", 1, 1);
        r.due(3, "alarm", 2, 7, 0, 31).due(11, "caseOf", 1, 2).due(15500, "caseOf", 1, 1);
        r.due(-1, "caseOf", 2, 2).due(-1, "caseOf", 3, 2).due(1, "told", 3, 12);
        settle(r, 1, 1);
        r.due(-1, "caseOf", 1, 2).due(9, "caseOf", 2, 2).due(2, "told", 3, 12).due(31000, "caseOf", 2, 1);
        r.due(1, "tie", 0, 3, 1).due(0, "told", 2, 12).due(11, "caseOf", 0, 2).due(-1, "caseOf", 2, 2);
    }

    private static void orderByScoreThenNumber() {
        Run r = run("ORDER of CASES: the greater SCORE, then the lesser number");
        int[] worth = {50, 51, 50, 49, 51, 50};
        for (int i = 0; i < worth.length; i++) {
            r.due(i, "alarm", 0, i, 0, worth[i]);
        }
        int[] want = {1, 4, 0, 2, 5, 3, -1};
        for (int k = 0; k < want.length; k++) {
            r.due(want[k], "order", k);
        }
        r.due(6, "alarm", 1, 5, 0, 51).due(5, "order", 2).due(0, "order", 3);
    }

    private static void slowIsAboveThirtyThousand() {
        Run r = run("if it's above 30,000");
        for (int i = 0; i < 3; i++) {
            r.due(i, "alarm", 9, i, 0, 10);
            settle(r, i, i == 0 ? 1 : 0);
        }
        // A third of WORTH times 1,000 now: 9,000 three times, and 3,000.
        r.due(3, "alarm", 0, 7, 0, 27).due(4, "alarm", 1, 7, 0, 27).due(5, "alarm", 2, 7, 0, 27);
        r.due(-1, "slow", 7).due(6, "alarm", 3, 7, 0, 9).due(-1, "slow", 7);
        r.due(7, "alarm", 4, 7, 0, 1).due(30333, "slow", 7);
        settle(r, 7, 0);
        r.due(-1, "slow", 7);
        Run most = run("the sum of SCORES of many");
        for (int i = 0; i < 60; i++) {
            most.due(i, "alarm", i / 6, 7, i, 19);
        }
        most.due(60 * 9500, "slow", 7);
    }

    private static void slowOfThirtyThousandAndOne() {
        Run r = run("30,001 is above 30,000");
        int[] settledOfLeaf = {5, 7, 9};
        int made = 0;
        for (int leaf = 0; leaf < 3; leaf++) {
            for (int i = 0; i < settledOfLeaf[leaf]; i++) {
                r.due(made, "alarm", 9, 10 + i, 512 * leaf, 1);
                settle(r, made, i == 0 ? 1 : 0);
                made++;
            }
        }
        r.due(21, "alarm", 0, 7, 0, 47).due(9400, "told", 21, 9);
        r.due(22, "alarm", 0, 7, 512, 67).due(9571, "told", 22, 9);
        r.due(23, "alarm", 0, 7, 1024, 89).due(9888, "told", 23, 9).due(-1, "slow", 7);
        r.due(24, "alarm", 1, 7, 512, 8).due(1142, "told", 24, 9).due(30001, "slow", 7);
    }

    private static void slowHasNoneOfTenThousand() {
        Run r = run("none of these has 10,000 or more");
        for (int i = 0; i < 4; i++) {
            r.due(i, "alarm", i, 7, 0, 19);
        }
        r.due(38000, "slow", 7).due(4, "alarm", 4, 7, 0, 20).due(10000, "told", 4, 9).due(-1, "slow", 7);
        r.due(5, "alarm", 5, 7, 0, 21).due(-1, "slow", 7);
        Run below = run("one that has little less than 10,000");
        for (int i = 0; i < 7; i++) {
            below.due(i, "alarm", 9, i, 0, 10);
            settle(below, i, i < 3 ? 1 : 0);
        }
        for (int i = 7; i < 11; i++) {
            below.due(i, "alarm", i - 7, 7, 0, 23).due(9857, "told", i, 9);
        }
        below.due(4 * 9857, "slow", 7);
    }

    private static void slowLooksAtTheLatestTwoHundred() {
        Run r = run("the latest 200 (NOW and the 199 ahead)");
        r.due(0, "alarm", 0, 7, 0, 18).due(1, "pass", 1);
        for (int i = 1; i < 4; i++) {
            r.due(i, "alarm", i, 7, 0, 18);
        }
        r.due(36000, "slow", 7).due(199, "pass", 198).due(36000, "slow", 7);
        r.due(200, "pass", 1).due(-1, "slow", 7);
        r.due(4, "alarm", 4, 7, 0, 7).due(30500, "slow", 7);
        r.due(201, "pass", 1).due(-1, "slow", 7);
        Run loud = run("a loud one of 200 ago is none of these");
        loud.due(0, "alarm", 9, 7, 0, 100).due(1, "pass", 1);
        for (int i = 0; i < 4; i++) {
            loud.due(i + 1, "alarm", i, 7, 0, 18);
        }
        loud.due(199, "pass", 198).due(-1, "slow", 7).due(200, "pass", 1).due(36000, "slow", 7);
    }

    private static void slowOfOpenOnesOfOneThing() {
        Run r = run("of a THING's OPEN ALARMS (none SILENCED, CAPPED)");
        r.due(1, "silence", 9, 0, 0).due(1, "set", 0, 4);
        for (int i = 0; i < 4; i++) {
            r.due(i, "alarm", 0, 7, i, 15);
        }
        r.due(4, "alarm", 9, 7, 0, 15).due(5, "alarm", 0, 7, 4, 15).due(6, "alarm", 1, 6, 0, 15);
        r.due(7, "alarm", 1, 8, 0, 15).due(1, "told", 4, 7).due(1, "told", 5, 8);
        r.due(-1, "slow", 7).due(-1, "slow", 6).due(-1, "slow", 8);
        r.due(0, "alarm", 0, 7, 0, 15).due(1, "told", 0, 5).due(-1, "slow", 7);
        r.due(8, "alarm", 2, 7, 0, 1).due(30500, "slow", 7);
        r.due(0, "verdict", 8, 0, 1).due(30500, "slow", 7).due(0, "verdict", 8, 1, 0).due(30500, "slow", 7);
    }

    private static void planForMinutes() {
        Run r = run("PLAN for M MINUTES (0 to 300)");
        r.due(0, "alarm", 0, 7, 0, 10);
        plan(r, 0);
        plan(r, 300, 0);
        r.due(-1, "plan", -1, -1).due(-1, "plan", 301, -1).due(-1, "plan", -1, 0).due(-1, "plan", 301, 0);
        Run none = run("PLAN without CASES");
        plan(none, 0);
        plan(none, 300);
    }

    private static void planFitsToTheMinute() {
        Run r = run("the set that fits what is left");
        r.due(0, "alarm", 0, 0, 0, 30).due(1, "alarm", 0, 1, 0, 20).due(2, "alarm", 1, 1, 0, 20);
        plan(r, 6);
        plan(r, 7, 0);
        plan(r, 15, 0);
        plan(r, 16, 0, 1);
    }

    private static void planOfACaseAtThreeHundred() {
        Run r = run("a CASE of 299 MINUTES and one of 301");
        for (int i = 0; i < 147; i++) {
            r.due(i, "alarm", i % 10, 7, i, 10);
        }
        r.due(299, "caseOf", 0, 2);
        plan(r, 298);
        plan(r, 299, 0);
        plan(r, 300, 0);
        r.due(147, "alarm", 9, 7, 147, 100).due(301, "caseOf", 0, 2);
        plan(r, 300);
        r.due(1, "set", 2, 5);
        plan(r, 300);
        r.due(0, "worth", 300, 0).due(50000, "worth", 300, 1).due(0, "worth", 300, 2);
    }

    /** Settles one alarm, then makes known cases by its marks and little known ones by others. */
    private static void knownAndLittleKnown(Run r, int known, int little) {
        r.due(1, "set", 1, 1).due(0, "alarm", 9, 39, 0, 1);
        settle(r, 0, 1);
        for (int i = 0; i < known; i++) {
            r.due(1 + i, "alarm", 0, i, 1, 90 - i);
        }
        for (int i = 0; i < little; i++) {
            r.due(1 + known + i, "alarm", 0, known + i, 3584, 30 - i);
        }
    }

    private static void triesAreNoneAtFirst() {
        Run r = run("TRY (0 to 5; 0 at first)");
        knownAndLittleKnown(r, 1, 7);
        plan(r, 7, 1);
        r.refused(0, "set", 2, -1).refused(0, "set", 2, 6);
        r.due(1, "set", 2, 1);
        plan(r, 7, 2);
        r.refused(0, "set", 2, -1).refused(0, "set", 2, 6);
        plan(r, 7, 2);
        r.due(1, "set", 2, 0);
        plan(r, 7, 1);
    }

    private static void asManyAsTryTells() {
        Run r = run("as many as TRY tells");
        knownAndLittleKnown(r, 1, 7);
        int[][] want = {{1, 2, 3, 4, 5}, {2, 1, 3, 4, 5}, {2, 3, 1, 4, 5}, {2, 3, 4, 1, 5}, {2, 3, 4, 5, 1},
            {2, 3, 4, 5, 6}};
        for (int tries = 0; tries <= 5; tries++) {
            r.due(1, "set", 2, tries);
            plan(r, 35, want[tries]);
        }
        plan(r, 42, 2, 3, 4, 5, 6, 1);
        Run few = run("TRY tells more than are little known");
        knownAndLittleKnown(few, 2, 1);
        few.due(1, "set", 2, 5);
        plan(few, 300, 3, 1, 2);
        Run none = run("TRY tells some, and none is little known");
        knownAndLittleKnown(none, 2, 0);
        none.due(1, "set", 2, 5);
        plan(none, 300, 1, 2);
        plan(none, 7, 1);
    }

    private static void triesFitToTheMinute() {
        Run r = run("each if its MINUTES still fit");
        knownAndLittleKnown(r, 1, 2);
        r.due(4, "alarm", 1, 1, 3584, 1).due(9, "caseOf", 2, 2).due(1, "set", 2, 2);
        plan(r, 6);
        plan(r, 7, 3);
        plan(r, 8, 3);
        plan(r, 9, 2);
        plan(r, 15, 2);
        plan(r, 16, 2, 3);
        plan(r, 22, 2, 3);
        plan(r, 23, 2, 3, 1);
    }

    private static void triesInOrder() {
        Run r = run("first the little known CASES, in ORDER");
        r.due(1, "set", 2, 2);
        r.due(0, "alarm", 0, 0, 0, 10).due(1, "alarm", 0, 1, 0, 20).due(2, "alarm", 0, 2, 0, 20);
        r.due(3, "alarm", 0, 3, 0, 30);
        plan(r, 14, 3, 1);
        plan(r, 21, 3, 1, 2);
        plan(r, 28, 3, 1, 2, 0);
        Run zero = run("tried though its SCORE is 0");
        zero.due(0, "alarm", 0, 0, 0, 10).due(1, "alarm", 0, 1, 0, 10);
        settle(zero, 0, 0);
        zero.due(0, "caseOf", 1, 1).due(1, "caseOf", 1, 3);
        plan(zero, 7);
        zero.due(1, "set", 2, 1);
        plan(zero, 7, 1);
        zero.due(0, "worth", 7, 0).due(7, "worth", 7, 2);
    }

    private static void littleKnownBySomeAlarm() {
        Run r = run("CASES of which some ALARM's NODE has depth 0");
        knownAndLittleKnown(r, 2, 0);
        r.due(0, "caseOf", 2, 3).due(1, "set", 2, 1);
        plan(r, 7, 1);
        r.due(3, "alarm", 1, 1, 4095, 1).due(1, "caseOf", 2, 3).due(0, "told", 3, 10).due(3, "told", 2, 10);
        plan(r, 9, 2);
        settle(r, 3, 1);
        r.due(0, "caseOf", 2, 3);
        plan(r, 9, 1);
    }

    private static void firstTwelveOthers() {
        Run r = run("of the first 12 others in ORDER");
        for (int i = 0; i < 12; i++) {
            r.due(i, "alarm", 0, i, 0, 60 - i);
        }
        plan(r, 300, 0, 1, 2, 3, 4, 5, 6, 7, 8, 9, 10, 11);
        r.due(12, "alarm", 0, 12, 0, 1);
        plan(r, 300, 0, 1, 2, 3, 4, 5, 6, 7, 8, 9, 10, 11);
        r.due(1, "set", 2, 1);
        plan(r, 300, 0, 1, 2, 3, 4, 5, 6, 7, 8, 9, 10, 11, 12);
        // The twelfth doesn't fit, and the thirteenth would: it isn't looked at.
        Run far = run("the thirteenth other is not looked at");
        for (int i = 0; i < 12; i++) {
            far.due(2 * i, "alarm", 0, i, 0, 50).due(2 * i + 1, "alarm", 1, i, 0, 50);
        }
        far.due(24, "alarm", 0, 12, 0, 49);
        plan(far, 8);
        plan(far, 9, 0);
        settle(far, 0, 1);
        settle(far, 1, 0);
        plan(far, 8, 24);
    }

    private static void littleKnownOnesNotTakenAreAmongTheOthers() {
        Run r = run("those little known that weren't taken, too");
        knownAndLittleKnown(r, 1, 3);
        r.due(1, "set", 2, 1);
        plan(r, 14, 2, 1);
        plan(r, 21, 2, 1, 3);
        plan(r, 28, 2, 1, 3, 4);
    }

    private static void greatestSumThatFits() {
        Run r = run("the set of the greatest sum of SCORES that fits");
        r.due(0, "alarm", 0, 0, 0, 40).due(1, "alarm", 1, 0, 0, 1).due(2, "alarm", 2, 0, 0, 1);
        r.due(3, "alarm", 3, 0, 0, 1).due(4, "alarm", 4, 0, 0, 1).due(15, "caseOf", 0, 2);
        r.due(5, "alarm", 0, 1, 0, 21).due(6, "alarm", 0, 2, 0, 20);
        plan(r, 13, 5);
        plan(r, 14, 5, 6);
        plan(r, 15, 5, 6);
        plan(r, 21, 5, 6);
        plan(r, 22, 0, 5);
        plan(r, 28, 0, 5);
        plan(r, 29, 0, 5, 6);
    }

    private static void lastOnesAreNotTakenIfTheyNeedNot() {
        Run r = run("of several sets the one whose last CASE in ORDER isn't taken");
        for (int i = 0; i < 4; i++) {
            r.due(i, "alarm", 0, i, 0, 10);
        }
        plan(r, 7, 0);
        plan(r, 14, 0, 1);
        plan(r, 21, 0, 1, 2);
        plan(r, 27, 0, 1, 2);
        plan(r, 28, 0, 1, 2, 3);

        // 40, 20, 20, 10, 10 at 15, 7, 7, 7, 7 minutes: 40 alone is as much as both 20s, and leaves the last ones.
        Run sum = run("a set without the last against one with it");
        sum.due(0, "alarm", 0, 0, 0, 40);
        for (int i = 1; i < 5; i++) {
            sum.due(i, "alarm", i, 0, 0, 1);
        }
        sum.due(5, "alarm", 0, 1, 0, 20).due(6, "alarm", 0, 2, 0, 20);
        sum.due(7, "alarm", 0, 3, 0, 10).due(8, "alarm", 0, 4, 0, 10);
        plan(sum, 14, 5, 6);
        plan(sum, 15, 0);
        plan(sum, 21, 5, 6, 7);
        plan(sum, 22, 0, 5);
        plan(sum, 28, 0, 5);
        plan(sum, 29, 0, 5, 6);

        // 30 and 10 for 11 and 7 minutes against 20 and 20 for 9 each: as much, but the first set needs the last.
        Run ahead = run("a set with the first and the last against one of those between");
        int[] things = {0, 0, 0, 1, 1, 2, 2, 3};
        for (int i = 0; i < things.length; i++) {
            ahead.due(i, "alarm", i, things[i], 0, new int[] {30, 20, 20, 10}[things[i]]);
        }
        plan(ahead, 10, 3);
        plan(ahead, 15, 0);
        plan(ahead, 16, 0);
        plan(ahead, 17, 0);
        plan(ahead, 18, 3, 5);
        plan(ahead, 19, 3, 5);
        plan(ahead, 20, 0, 3);

        Run zero = run("SCORE 0 needn't be taken");
        zero.due(1, "set", 1, 1);
        zero.due(0, "alarm", 0, 0, 0, 10).due(1, "alarm", 0, 1, 0, 10).due(2, "alarm", 0, 2, 4095, 10);
        settle(zero, 0, 0);
        zero.due(3, "alarm", 0, 3, 4095, 1);
        settle(zero, 3, 1);
        plan(zero, 300, 2);
        zero.due(0, "caseOf", 1, 1).due(10000, "caseOf", 2, 1);
    }
}
