/** 'Terms', part 1, sentence by sentence: each bound from just inside and from just outside. */
public final class EdgeTerms1Test {
    private static final Check check = new Check("EdgeTerms1Test");

    public static void main(String[] args) {
        timeIsZeroAtFirstAndUpToTenThousand();
        upToTwoHundredAlarms();
        numberedAsTheyCome();
        sourceThingMarksWorth();
        eachOfTheFourMarks();
        foldedIfLikeInSourceThingMarks();
        foldedOnlyIntoAnOpenOne();
        notFoldedIntoASilencedOne();
        notFoldedIntoACappedOne();
        foldedAtMostTenAfterItCame();
        foldedAtMostTenAfterItWasRepeated();
        foldedIntoTheLatest();
        foldedOnesAreNotKept();
        upToThirtySilences();
        silenceFromAndToCountBoth();
        silenceOfOneSource();
        silencesOneBesideTheOther();
        capIsFiftyAtFirst();
        capOfOneAndOfTwo();
        capLooksAtTheLatestTen();
        capDoesNotCountSilencedCappedFolded();
        capCountsSettledOnes();
        capMovesWithTheNextAlarm();
        lookersEachOnce();
        settledAsSoonAsTwoAgree();
        check.end();
    }

    private static Run run(String sentence) {
        return new Run(check, sentence);
    }

    private static void timeIsZeroAtFirstAndUpToTenThousand() {
        Run r = run("NOW is 0 at first, up to 10,000");
        r.due(0, "count", 0).due(0, "alarm", 0, 0, 0, 1).due(0, "told", 0, 0);
        for (int i = 1; i <= 9; i++) {
            r.due(i * 1000, "pass", 1000);
        }
        r.due(9999, "pass", 999);
        r.refused(-1, "pass", 2).due(9999, "count", 0);
        r.due(10000, "pass", 1);
        r.refused(-1, "pass", 1).due(10000, "count", 0);
        r.due(1, "alarm", 0, 0, 0, 1).due(10000, "told", 1, 0);
    }

    private static void upToTwoHundredAlarms() {
        Run r = run("ALARMS, up to 200");
        for (int i = 0; i < 199; i++) {
            r.due(i, "alarm", i % 10, i % 40, i, 1);
        }
        r.due(199, "count", 1);
        r.due(199, "alarm", 9, 39, 4095, 100).due(200, "count", 1);
        r.refused(-3, "alarm", 0, 0, 4094, 1);
        r.due(200, "count", 1).due(200, "count", 2).due(0, "node", 4, 4094, 2).due(-1, "told", 200, 0);
    }

    private static void numberedAsTheyCome() {
        Run r = run("ALARMS, numbered as they come");
        r.due(0, "alarm", 5, 5, 5, 5);
        r.refused(-2, "alarm", 10, 5, 5, 5);
        r.due(1, "alarm", 0, 5, 5, 5);
        r.due(0, "alarm", 5, 5, 5, 5);
        r.due(2, "alarm", 0, 6, 5, 5);
        r.due(1, "pass", 1).due(3, "alarm", 0, 0, 5, 5);
    }

    private static void sourceThingMarksWorth() {
        Run r = run("a SOURCE 0 to 9, a THING 0 to 39, four MARKS 0 to 7, a WORTH 1 to 100");
        r.due(0, "alarm", 0, 20, 77, 50).due(0, "told", 0, 1);
        r.due(1, "alarm", 9, 20, 77, 50).due(9, "told", 1, 1);
        r.refused(-2, "alarm", -1, 20, 77, 50).refused(-2, "alarm", 10, 20, 77, 50);
        r.due(2, "alarm", 4, 0, 77, 50).due(0, "told", 2, 2);
        r.due(3, "alarm", 4, 39, 77, 50).due(39, "told", 3, 2);
        r.refused(-2, "alarm", 4, -1, 77, 50).refused(-2, "alarm", 4, 40, 77, 50);
        r.due(4, "alarm", 4, 20, 0, 50).due(0, "told", 4, 3);
        r.due(5, "alarm", 4, 20, 4095, 50).due(4095, "told", 5, 3);
        r.refused(-2, "alarm", 4, 20, -1, 50).refused(-2, "alarm", 4, 20, 4096, 50);
        r.due(6, "alarm", 4, 20, 77, 1).due(1, "told", 6, 4);
        r.due(7, "alarm", 4, 21, 77, 100).due(100, "told", 7, 4);
        r.refused(-2, "alarm", 4, 22, 77, 0).refused(-2, "alarm", 4, 22, 77, 101);
        // One that would be folded is looked at as well.
        r.refused(-2, "alarm", 4, 20, 77, 0).refused(-2, "alarm", 4, 20, 77, 101).due(0, "told", 6, 5);
        r.due(8, "count", 1);
    }

    private static void eachOfTheFourMarks() {
        int[] weights = {512, 64, 8, 1};
        for (int i = 0; i < 4; i++) {
            Run r = run("MARKS as 512 m0, 64 m1, 8 m2, m3 added: m" + i);
            int greatest = 7 * weights[i];
            r.due(0, "alarm", 0, 0, greatest, 1).due(greatest, "told", 0, 3);
            for (int depth = 0; depth <= 4; depth++) {
                r.due(1, "node", depth, greatest, 2);
                r.due(depth <= i ? 1 : 0, "node", depth, greatest - weights[i], 2);
                r.due(depth <= i ? 1 : 0, "node", depth, 0, 2);
            }
        }
    }

    private static void foldedIfLikeInSourceThingMarks() {
        Run r = run("another one of like SOURCE, THING, MARKS");
        r.due(0, "alarm", 4, 20, 585, 50);
        r.due(0, "alarm", 4, 20, 585, 1).due(0, "alarm", 4, 20, 585, 100).due(2, "told", 0, 5);
        r.due(1, "alarm", 3, 20, 585, 50).due(2, "alarm", 5, 20, 585, 50);
        r.due(3, "alarm", 4, 19, 585, 50).due(4, "alarm", 4, 21, 585, 50);
        int[] weights = {512, 64, 8, 1};
        for (int i = 0; i < 4; i++) {
            r.due(5 + 2 * i, "alarm", 4, 20, 585 - weights[i], 50);
            r.due(6 + 2 * i, "alarm", 4, 20, 585 + weights[i], 50);
        }
        r.due(2, "told", 0, 5).due(50, "told", 0, 4);
    }

    private static void foldedOnlyIntoAnOpenOne() {
        for (int is = 0; is <= 1; is++) {
            Run r = run("One that comes while another one is OPEN, " + is);
            r.due(0, "alarm", 4, 20, 585, 50);
            r.due(0, "verdict", 0, 0, is).due(0, "alarm", 4, 20, 585, 50);
            r.due(0, "verdict", 0, 1, 1 - is).due(0, "alarm", 4, 20, 585, 50).due(2, "told", 0, 5);
            r.due(1, "verdict", 0, 2, is).due(1, "alarm", 4, 20, 585, 50).due(2, "told", 0, 5);
            r.due(1, "alarm", 4, 20, 585, 50).due(1, "told", 1, 5);
        }
    }

    private static void notFoldedIntoASilencedOne() {
        Run r = run("OPEN that isn't SILENCED");
        r.due(1, "silence", 4, 0, 0);
        r.due(0, "alarm", 4, 20, 585, 50).due(1, "alarm", 4, 20, 585, 50);
        r.due(1, "told", 0, 7).due(1, "told", 1, 7);
        r.due(1, "pass", 1);
        r.due(2, "alarm", 4, 20, 585, 50).due(0, "told", 2, 7);
        r.due(2, "alarm", 4, 20, 585, 50);
        r.due(0, "told", 0, 5).due(0, "told", 1, 5).due(1, "told", 2, 5);
        // Silence that comes later doesn't hinder that an open one is repeated.
        r.due(2, "silence", 4, 1, 1);
        r.due(2, "alarm", 4, 20, 585, 50).due(2, "told", 2, 5).due(0, "told", 2, 7);
    }

    private static void notFoldedIntoACappedOne() {
        Run r = run("OPEN that isn't CAPPED");
        r.due(1, "set", 0, 1).due(0, "alarm", 4, 0, 0, 1);
        r.due(1, "alarm", 4, 20, 585, 50).due(2, "alarm", 4, 20, 585, 50);
        r.due(1, "told", 1, 8).due(1, "told", 2, 8);
        r.due(10, "pass", 10);
        r.due(3, "alarm", 4, 20, 585, 50).due(0, "told", 3, 8);
        r.due(3, "alarm", 4, 20, 585, 50);
        r.due(0, "told", 1, 5).due(0, "told", 2, 5).due(1, "told", 3, 5);
    }

    private static void foldedAtMostTenAfterItCame() {
        Run inside = run("came at most 10 ago");
        inside.play("pass", 5);
        inside.due(0, "alarm", 4, 20, 585, 50).due(15, "pass", 10).due(0, "alarm", 4, 20, 585, 50);
        inside.due(1, "count", 1).due(1, "told", 0, 5).due(5, "told", 0, 0);
        Run outside = run("came 11 ago");
        outside.play("pass", 5);
        outside.due(0, "alarm", 4, 20, 585, 50).due(16, "pass", 11).due(1, "alarm", 4, 20, 585, 50);
        outside.due(2, "count", 1).due(0, "told", 0, 5).due(16, "told", 1, 0);
    }

    private static void foldedAtMostTenAfterItWasRepeated() {
        Run inside = run("was repeated at most 10 ago");
        inside.due(0, "alarm", 4, 20, 585, 50).due(3, "pass", 3).due(0, "alarm", 4, 20, 585, 50);
        inside.due(13, "pass", 10).due(0, "alarm", 4, 20, 585, 50).due(2, "told", 0, 5);
        inside.due(23, "pass", 10).due(0, "alarm", 4, 20, 585, 50).due(3, "told", 0, 5);
        Run outside = run("was repeated 11 ago");
        outside.due(0, "alarm", 4, 20, 585, 50).due(3, "pass", 3).due(0, "alarm", 4, 20, 585, 50);
        outside.due(14, "pass", 11).due(1, "alarm", 4, 20, 585, 50).due(1, "told", 0, 5);
    }

    private static void foldedIntoTheLatest() {
        Run r = run("that one (the latest such) is REPEATED");
        r.due(0, "alarm", 4, 20, 585, 50).due(11, "pass", 11).due(1, "alarm", 4, 20, 585, 50);
        r.due(1, "alarm", 4, 20, 585, 50).due(0, "told", 0, 5).due(1, "told", 1, 5);
        // The latest is SETTLED, and the one ahead of it came too long ago.
        r.due(0, "verdict", 1, 0, 1).due(1, "verdict", 1, 1, 1);
        r.due(2, "alarm", 4, 20, 585, 50).due(2, "alarm", 4, 20, 585, 50).due(1, "told", 2, 5);
    }

    private static void foldedOnesAreNotKept() {
        Run r = run("isn't kept");
        r.due(0, "alarm", 4, 20, 585, 10).due(4, "pass", 4).due(0, "alarm", 4, 20, 585, 90);
        r.due(1, "count", 1).due(1, "count", 2).due(1, "count", 3).due(1, "node", 0, 0, 2).due(1, "source", 4, 0);
        r.due(7, "caseOf", 0, 2).due(5000, "caseOf", 0, 1).due(0, "told", 0, 0).due(10, "told", 0, 4);
        r.due(1, "told", 0, 5).due(-1, "told", 1, 0);
    }

    private static void upToThirtySilences() {
        Run r = run("SILENCES, up to 30");
        for (int i = 1; i <= 29; i++) {
            r.due(i, "silence", i % 10, 100 + i, 100 + i);
        }
        r.due(29, "count", 4).due(30, "silence", 3, 0, 0).due(30, "count", 4);
        r.refused(-1, "silence", 4, 0, 10000).refused(-1, "silence", 3, 0, 0).due(30, "count", 4);
        r.due(0, "alarm", 3, 0, 0, 1).due(1, "told", 0, 7);
        r.due(1, "alarm", 4, 0, 0, 1).due(0, "told", 1, 7);
        r.due(101, "pass", 101).due(2, "alarm", 1, 0, 0, 1).due(1, "told", 2, 7);
    }

    private static void silenceFromAndToCountBoth() {
        Run r = run("from a time to another one (both)");
        r.due(1, "silence", 4, 5, 7).due(4, "pass", 4);
        r.due(0, "alarm", 4, 0, 0, 1).due(0, "told", 0, 7);
        r.due(5, "pass", 1).due(1, "alarm", 4, 1, 0, 1).due(1, "told", 1, 7);
        r.due(7, "pass", 2).due(2, "alarm", 4, 2, 0, 1).due(1, "told", 2, 7);
        r.due(8, "pass", 1).due(3, "alarm", 4, 3, 0, 1).due(0, "told", 3, 7);

        Run one = run("from a time to the same one");
        one.due(1, "silence", 4, 1, 1).due(0, "alarm", 4, 0, 0, 1).due(0, "told", 0, 7);
        one.due(1, "pass", 1).due(1, "alarm", 4, 1, 0, 1).due(1, "told", 1, 7);
        one.due(2, "pass", 1).due(2, "alarm", 4, 2, 0, 1).due(0, "told", 2, 7);

        Run ends = run("a SILENCE of the first time and one of the last");
        ends.due(1, "silence", 4, 0, 0).due(2, "silence", 4, 10000, 10000);
        ends.due(0, "alarm", 4, 0, 0, 1).due(1, "told", 0, 7);
        for (int i = 0; i < 9; i++) {
            ends.play("pass", 1000);
        }
        ends.due(9999, "pass", 999).due(1, "alarm", 4, 1, 0, 1).due(0, "told", 1, 7);
        ends.due(10000, "pass", 1).due(2, "alarm", 4, 2, 0, 1).due(1, "told", 2, 7);
    }

    private static void silenceOfOneSource() {
        Run r = run("SILENCES of a SOURCE");
        r.due(1, "silence", 0, 0, 10000).due(2, "silence", 9, 0, 10000);
        for (int source = 0; source <= 9; source++) {
            r.due(source, "alarm", source, 0, 0, 1);
            r.due(source == 0 || source == 9 ? 1 : 0, "told", source, 7);
        }
        r.due(1, "source", 0, 2).due(0, "source", 1, 2).due(0, "source", 8, 2).due(1, "source", 9, 2);
    }

    private static void silencesOneBesideTheOther() {
        Run r = run("ALARMS of it that come then");
        r.due(1, "silence", 4, 1, 2).due(2, "silence", 4, 4, 4).due(3, "silence", 4, 4, 6);
        int[] silenced = {0, 1, 1, 0, 1, 1, 1, 0};
        for (int time = 0; time < silenced.length; time++) {
            r.due(time, "alarm", 4, time, 0, 1).due(silenced[time], "told", time, 7);
            r.due(time + 1, "pass", 1);
        }
        r.due(5, "source", 4, 2);
    }

    private static void capIsFiftyAtFirst() {
        Run r = run("CAP (1 to 50; 50 at first)");
        for (int i = 0; i < 52; i++) {
            r.due(i, "alarm", 4, i % 40, i, 1);
        }
        r.due(0, "told", 49, 8).due(1, "told", 50, 8).due(1, "told", 51, 8).due(2, "source", 4, 3);
        r.refused(0, "set", 0, 0).refused(0, "set", 0, 51);

        Run set = run("CAP of 50, set");
        set.due(1, "set", 0, 1).due(1, "set", 0, 50);
        for (int i = 0; i < 51; i++) {
            set.due(i, "alarm", 4, i % 40, i, 1);
        }
        set.due(0, "told", 49, 8).due(1, "told", 50, 8);
    }

    private static void capOfOneAndOfTwo() {
        for (int cap = 1; cap <= 2; cap++) {
            Run r = run("at most so many: " + cap);
            r.due(1, "set", 0, cap);
            for (int i = 0; i < 4; i++) {
                r.due(i, "alarm", 4, i, 0, 1).due(i < cap ? 0 : 1, "told", i, 8);
            }
            r.due(4, "alarm", 5, 0, 0, 1).due(0, "told", 4, 8);
            r.due(4 - cap, "source", 4, 3).due(0, "source", 5, 3);
        }
    }

    private static void capLooksAtTheLatestTen() {
        Run inside = run("the latest 10 (NOW and the 9 ahead of it): 9 ago");
        inside.due(1, "set", 0, 1).due(0, "alarm", 4, 0, 0, 1);
        inside.due(9, "pass", 9).due(1, "alarm", 4, 1, 0, 1).due(1, "told", 1, 8);
        Run outside = run("the latest 10 (NOW and the 9 ahead of it): 10 ago");
        outside.due(1, "set", 0, 1).due(0, "alarm", 4, 0, 0, 1);
        outside.due(10, "pass", 10).due(1, "alarm", 4, 1, 0, 1).due(0, "told", 1, 8);
        Run some = run("the latest 10, some within and some not");
        some.due(1, "set", 0, 2).due(0, "alarm", 4, 0, 0, 1).due(1, "pass", 1).due(1, "alarm", 4, 1, 0, 1);
        some.due(10, "pass", 9).due(2, "alarm", 4, 2, 0, 1).due(3, "alarm", 4, 3, 0, 1);
        some.due(0, "told", 2, 8).due(1, "told", 3, 8);
    }

    private static void capDoesNotCountSilencedCappedFolded() {
        Run silenced = run("ALARMS that aren't SILENCED");
        silenced.due(1, "set", 0, 1).due(1, "silence", 4, 0, 0);
        silenced.due(0, "alarm", 4, 0, 0, 1).due(1, "alarm", 4, 1, 0, 1);
        silenced.due(1, "told", 1, 7).due(0, "told", 1, 8);
        silenced.due(1, "pass", 1).due(2, "alarm", 4, 2, 0, 1).due(0, "told", 2, 8);
        silenced.due(2, "silence", 4, 2, 2).due(2, "pass", 1).due(3, "alarm", 4, 3, 0, 1);
        silenced.due(1, "told", 3, 7).due(0, "told", 3, 8);

        Run capped = run("ALARMS that aren't CAPPED");
        capped.due(1, "set", 0, 1).due(0, "alarm", 4, 0, 0, 1).due(9, "pass", 9);
        capped.due(1, "alarm", 4, 1, 0, 1).due(1, "told", 1, 8);
        capped.due(10, "pass", 1).due(2, "alarm", 4, 2, 0, 1).due(0, "told", 2, 8);

        Run folded = run("ALARMS that came, not those folded");
        folded.due(1, "set", 0, 1).due(0, "alarm", 4, 0, 0, 1).due(9, "pass", 9);
        folded.due(0, "alarm", 4, 0, 0, 1).due(10, "pass", 1).due(1, "alarm", 4, 1, 0, 1).due(0, "told", 1, 8);
        Run full = run("a repeat isn't CAPPED");
        full.due(1, "set", 0, 1).due(0, "alarm", 4, 0, 0, 1).due(0, "alarm", 4, 0, 0, 1);
        full.due(0, "told", 0, 8).due(1, "told", 0, 5).due(0, "source", 4, 3);
    }

    private static void capCountsSettledOnes() {
        Run r = run("so many ALARMS that aren't SILENCED or CAPPED came, SETTLED ones too");
        r.due(1, "set", 0, 1).due(0, "alarm", 4, 0, 0, 1);
        r.due(0, "verdict", 0, 0, 0).due(1, "verdict", 0, 1, 0);
        r.due(1, "alarm", 4, 0, 0, 1).due(1, "told", 1, 8);
    }

    private static void capMovesWithTheNextAlarm() {
        Run r = run("CAP set while ALARMS are there");
        r.due(1, "set", 0, 3);
        for (int i = 0; i < 3; i++) {
            r.due(i, "alarm", 4, i, 0, 1);
        }
        r.due(1, "set", 0, 1).due(0, "told", 1, 8).due(3, "alarm", 4, 3, 0, 1).due(1, "told", 3, 8);
        r.due(1, "set", 0, 4).due(1, "told", 3, 8).due(4, "alarm", 4, 4, 0, 1).due(0, "told", 4, 8);
        r.due(5, "alarm", 4, 5, 0, 1).due(1, "told", 5, 8);
    }

    private static void lookersEachOnce() {
        Run r = run("VERDICTS by LOOKERS 0 to 9, each one once");
        r.due(0, "alarm", 4, 0, 0, 1).due(1, "alarm", 4, 1, 0, 1);
        r.due(0, "verdict", 0, 0, 1).due(0, "verdict", 1, 9, 0);
        r.refused(-1, "verdict", 0, -1, 1).refused(-1, "verdict", 0, 10, 1);
        r.refused(-1, "verdict", 0, 0, 1).refused(-1, "verdict", 0, 0, 0);
        r.refused(-1, "verdict", 1, 9, 0).refused(-1, "verdict", 1, 9, 1);
        r.due(1, "told", 0, 11).due(1, "told", 1, 11);
        // A LOOKER who gave one for an ALARM may give one for another.
        r.due(0, "verdict", 1, 0, 1).due(2, "told", 1, 11);
        // Those of 32 and 33 places on would be the same, were a LOOKER kept as a bit alone.
        r.refused(-1, "verdict", 0, 33, 1).refused(-1, "verdict", 0, 65, 1);
    }

    private static void settledAsSoonAsTwoAgree() {
        for (int is = 0; is <= 1; is++) {
            Run two = run("SETTLED as soon as two agree, by what these say: " + is);
            two.due(0, "alarm", 4, 0, 0, 1).due(0, "verdict", 0, 3, is).due(0, "told", 0, 6);
            two.due(1, "verdict", 0, 4, is).due(is == 1 ? 1 : 2, "told", 0, 6).due(2, "told", 0, 11);
            two.refused(-1, "verdict", 0, 5, is).refused(-1, "verdict", 0, 5, 1 - is);
            Run three = run("SETTLED by the third: " + is);
            three.due(0, "alarm", 4, 0, 0, 1).due(0, "verdict", 0, 9, 1 - is).due(0, "verdict", 0, 8, is);
            three.due(0, "told", 0, 6).due(2, "told", 0, 11).due(1, "count", 2);
            three.due(1, "verdict", 0, 7, is).due(is == 1 ? 1 : 2, "told", 0, 6).due(3, "told", 0, 11);
            three.due(0, "count", 2).refused(-1, "verdict", 0, 6, 1 - is);
        }
    }
}
