/** The edges of STEPS, DROWNED, STUCK, OVER, CLIMBED, ACTS, and of promises 10 to 13: head, step, climb, undo. */
public final class EdgeStepTest {
    private static final int BAD = OverSands.BAD, UNKNOWN = OverSands.UNKNOWN, LATE = OverSands.LATE, FULL = OverSands.FULL;
    private static final int WALKS = 0, OVER = 1, DROWNED = 2, STUCK = 3, UP = 4;
    private static final String DRY = "B9999999999" + "00" + "1" + "0";
    private static final Check CHECK = new Check("EdgeStepTest");

    public static void main(String[] args) {
        headTellsTheWayBefore();
        headWayIs0To2();
        headUnknown();
        headHeadsSo();
        headOfOneThatDoesNotWalk();
        headRefusedTwice();
        headAtTheLastStep();
        stepByPace();
        stepByHalfOfThePace();
        stepIsDeepWhereItBegins();
        stepOverWhatIsAsDeepAsItWades();
        stepLooksAtTheStepNotTheNextOne();
        stepGoesCellByCell();
        stepHasNoNextCell();
        stepIs40AtMost();
        drownedByOneDeeper();
        drownedByThen();
        drownedNotOnTheShores();
        drownedNoMore();
        stuckWhoDidNotGoAtAll();
        stuckWhoCouldNotGo();
        notStuckWhoWent();
        drownedRatherThanStuck();
        overByHeadingOn();
        overAtTheLastStep();
        stepOfNobody();
        climbTillItIsFull();
        climbUnknown();
        climbWithoutATower();
        climbOfOneThatDoesNotWalk();
        climbLateAheadOfFull();
        climbAtTheLastStep();
        upLives();
        undoOfNone();
        undoOfEachAct();
        undoOfTheTower();
        actsAre16AtMost();
        actsForgetTheFirst();
        actsRoundAndRound();
        whatIsRefusedIsNoAct();
        undoLeavesAllElse();
        CHECK.end();
    }

    private static Run run(String sentence) {
        return new Run(CHECK, sentence);
    }

    // ---- promise 10

    private static void headTellsTheWayBefore() {
        Run r = run("which way it HEADED before (1 on, 2 back, 0: it STOOD)").bay(DRY + "W10W10");
        int[] ways = {0, 1, 2, 0, 2, 1, 0};
        for (int k = 1; k < ways.length; k++) {
            r.does("head(1, " + ways[k] + ")", ways[k - 1]).asks("walker(1, 3)", ways[k]).asks("walker(0, 3)", 0).asks("about(12)", k);
        }
        r.asks("about(2)", 0);
    }

    private static void headWayIs0To2() {
        Run r = run("head: BAD: way (0 .. 2)").bay(DRY + "W10");
        for (String way : new String[] {"-1", "3", "4", "-2", "MIN", "MAX"}) r.still("head(0, " + way + ")", BAD);
        r.does("head(0, 2)", 0).does("head(0, 0)", 2).does("head(0, 1)", 0);
        for (String way : new String[] {"-1", "3", "MIN", "MAX"}) r.still("head(0, " + way + ")", BAD);
    }

    private static void headUnknown() {
        for (int n = 0; n <= 5; n++) {
            Run r = run("head: UNKNOWN, of " + n).bay(DRY + "W10".repeat(n));
            for (String walker : new String[] {"-1", "" + n, "5", "6", "MIN", "MAX"}) r.still("head(" + walker + ", 1)", UNKNOWN);
            if (n > 0) r.does("head(" + (n - 1) + ", 1)", 0);
        }
        run("head: UNKNOWN in a new object").still("head(0, 1)", UNKNOWN);
    }

    private static void headHeadsSo() {
        Run r = run("head: LATE: it HEADS so").bay(DRY + "W10").still("head(0, 0)", LATE);
        r.does("head(0, 1)", 0).still("head(0, 1)", LATE).does("step()", 0).still("head(0, 1)", LATE);
        r.does("head(0, 2)", 1).still("head(0, 2)", LATE).does("head(0, 0)", 2).still("head(0, 0)", LATE);
    }

    private static void headOfOneThatDoesNotWalk() {
        Run r = Fates.reached(run("head: LATE: it does not WALK"));
        for (int walker = 0; walker <= 3; walker++) for (int way = 0; way <= 2; way++) r.still("head(" + walker + ", " + way + ")", LATE);
        r.still("head(4, 0)", LATE).does("head(4, 1)", 0);
    }

    private static void headRefusedTwice() {
        Run r = Fates.reached(run("head: UNKNOWN ahead of BAD, BAD ahead of LATE"));
        for (String walker : new String[] {"-1", "5", "MIN", "MAX"}) for (String way : new String[] {"-1", "3"}) {
            r.still("head(" + walker + ", " + way + ")", UNKNOWN);
        }
        for (int walker = 0; walker <= 3; walker++) for (String way : new String[] {"-1", "3", "MAX"}) {
            r.still("head(" + walker + ", " + way + ")", BAD);
        }
    }

    private static void headAtTheLastStep() {
        run("head: nothing is late at STEP 40").bay(DRY + "W10").times(40, "step()", 0).does("head(0, 1)", 0).does("head(0, 2)", 1)
            .still("step()", LATE).does("undo()", 15);
    }

    // ---- promise 11: how far

    private static void stepByPace() {
        Run r = run("CELL by CELL, as many as its PACE").bay(DRY + "W10W20W30").does("head(0, 1)", 0).does("head(1, 1)", 0).does("head(2, 1)", 0);
        r.does("step()", 0).where(0, 1, WALKS).where(1, 2, WALKS).where(2, 3, WALKS).does("step()", 0).where(0, 2, WALKS).where(1, 4, WALKS)
            .where(2, 6, WALKS);
        for (int walker = 0; walker <= 2; walker++) r.does("head(" + walker + ", 2)", 1);
        r.does("step()", 0).where(0, 1, WALKS).where(1, 2, WALKS).where(2, 3, WALKS);
        for (int walker = 0; walker <= 2; walker++) r.does("head(" + walker + ", 0)", 2);
        r.does("step()", 0).where(0, 1, WALKS).where(1, 2, WALKS).where(2, 3, WALKS);
    }

    /** All CELLS lie high but one; the water is as high as STEPS are from 10. */
    private static String lowAt(int cell) {
        return "B" + "9".repeat(cell) + "0" + "9".repeat(9 - cell) + "10" + "1" + "0";
    }

    /** On the one CELL that lies low, at that STEP: at 10 it is bare, at 11 it is 1 deep. */
    private static Run onTheLowOne(String sentence, int pace, int step) {
        return run(sentence).bay(lowAt(pace) + "W" + pace + "5").times(step - 1, "step()", 0).does("head(0, 1)", 0).does("step()", 0)
            .where(0, pace, WALKS);
    }

    private static void stepByHalfOfThePace() {
        String sentence = "but half (up) of it, if it is DEEP where it begins";
        int[] half = {0, 1, 1, 2};
        for (int pace = 1; pace <= 3; pace++) {
            onTheLowOne(sentence + ": bare", pace, 10).still("cell(" + pace + ", 1)", 0).does("step()", 0).where(0, 2 * pace, WALKS);
            onTheLowOne(sentence + ": 1 deep", pace, 11).still("cell(" + pace + ", 1)", 1).does("step()", 0).where(0, pace + half[pace], WALKS);
            onTheLowOne(sentence + ": 5 deep", pace, 15).still("cell(" + pace + ", 1)", 5).does("step()", 0).where(0, pace + half[pace], WALKS);
            onTheLowOne(sentence + ": 1 deep, back", pace, 11).does("head(0, 2)", 1).does("step()", 0).where(0, pace - half[pace], WALKS);
            onTheLowOne(sentence + ": bare, back", pace, 10).does("head(0, 2)", 1).does("step()", 0).where(0, 0, WALKS);
        }
    }

    private static void stepIsDeepWhereItBegins() {
        // CELLS 1 .. 3 are 3 deep, CELL 0 where it begins is never deep; then CELL 3, where it begins, is 2 deep.
        run("if it is DEEP where it begins, not where it goes").bay("B0000999999" + "03" + "1" + "0" + "W35").does("head(0, 1)", 0)
            .does("step()", 0).where(0, 3, WALKS).does("step()", 0).where(0, 5, WALKS).does("step()", 0).where(0, 8, WALKS);
    }

    private static void stepOverWhatIsAsDeepAsItWades() {
        for (int wade = 0; wade <= 5; wade++) {
            // Till 10 - wade CELL 1 is deeper than it wades, then it is just as deep.
            Run r = run("the next CELL is no deeper than it wades: " + wade).bay(lowAt(1) + "W1" + wade).does("head(0, 1)", 0)
                .times(10 - wade, "step()", 0);
            r.where(0, 0, WALKS).asks("cell(1, 1)", wade).does("step()", wade == 0 ? 1 : 0).where(0, 1, wade == 0 ? DROWNED : WALKS);
            if (wade > 0) backFromCell2("it is as deep as it wades", wade, 10 + wade).where(0, 0, WALKS);
            backFromCell2("it is one deeper than it wades", wade, 11 + wade).where(0, 2, WALKS);
        }
    }

    /** From CELL 2, which lies high, over CELL 1 back, at that STEP. */
    private static Run backFromCell2(String how, int wade, int step) {
        Run r = run("the next CELL back: " + how + ", " + wade).bay(lowAt(1) + "W2" + wade).times(10, "step()", 0).does("head(0, 1)", 0)
            .does("step()", 0).where(0, 2, WALKS);
        r.does("head(0, 0)", 1).times(step - 11, "step()", 0).asks("cell(1, 1)", step - 10).asks("about(2)", step);
        return r.does("head(0, 2)", 0).does("step()", 0);
    }

    private static void stepLooksAtTheStepNotTheNextOne() {
        // The water falls: at 0 CELL 1 is 2 deep, at 1 it is 1 deep.
        run("no deeper at THE STEP: too deep still").bay("B9099999999" + "02" + "1" + "0" + "W11").does("head(0, 1)", 0).does("step()", 0)
            .where(0, 0, WALKS).does("step()", 0).where(0, 1, WALKS);
        // The water comes: at 1 CELL 1 is 1 deep, at 2 it is 2 deep.
        run("no deeper at THE STEP: not yet too deep").bay("B9099999999" + "00" + "1" + "0" + "W11").does("step()", 0).does("head(0, 1)", 0)
            .does("step()", 1).where(0, 1, DROWNED);
    }

    private static void stepGoesCellByCell() {
        // CELL 2 is too deep till 35 for one that wades 5, CELL 3 is bare: none comes over it by a longer pace.
        Run r = run("CELL by CELL, as long as the next one is not too deep").bay("B9909999999" + "40" + "1" + "0" + "W30W20W35").does("head(0, 1)", 0)
            .does("head(1, 1)", 0).does("head(2, 1)", 0);
        r.does("step()", 0).where(0, 1, WALKS).where(1, 1, WALKS).where(2, 1, WALKS).times(34, "step()", 0).asks("cell(2, 1)", 5).where(2, 1, WALKS);
        r.does("step()", 0).where(2, 4, WALKS).where(0, 1, WALKS).where(1, 1, WALKS);
        Run s = run("CELL by CELL, back").bay("B9909999999" + "02" + "1" + "0" + "W30").times(2, "step()", 0).does("head(0, 1)", 0).does("step()", 0)
            .where(0, 3, WALKS);
        s.does("head(0, 2)", 1).does("step()", 0).where(0, 3, WALKS).times(5, "step()", 0).where(0, 3, WALKS);
    }

    private static void stepHasNoNextCell() {
        Run r = run("the next CELL there is: none ahead of 0").bay(DRY + "W10W20W30");
        for (int walker = 0; walker <= 2; walker++) r.does("head(" + walker + ", 2)", 0);
        r.does("step()", 0).where(0, 0, WALKS).where(1, 0, WALKS).where(2, 0, WALKS);
        for (int walker = 1; walker <= 2; walker++) r.does("head(" + walker + ", 1)", 2);
        r.does("step()", 0).where(1, 2, WALKS).where(2, 3, WALKS).does("head(2, 2)", 1).does("head(1, 2)", 1).does("step()", 0).where(1, 0, WALKS)
            .where(2, 0, WALKS);
        // 2 deep on CELL 3: so it goes by way of CELLS 3, 5, 8, and of its three CELLS there is but one more.
        run("the next CELL there is: none behind 9").bay("B0000999999" + "03" + "1" + "0" + "W35").does("head(0, 1)", 0).times(3, "step()", 0)
            .where(0, 8, WALKS).does("step()", 0).where(0, 9, OVER);
        run("the next CELL there is: none behind 9").bay(DRY + "W20").does("head(0, 1)", 0).times(4, "step()", 0).where(0, 8, WALKS).does("step()", 0)
            .where(0, 9, OVER);
    }

    private static void stepIs40AtMost() {
        Run r = run("40 at most: then no STEP goes by; LATE: THE STEP is 40").bay("B0999999990" + "00" + "1" + "0" + "W10W30").does("head(0, 1)", 0)
            .does("head(1, 1)", 0).times(3, "step()", 0).does("head(0, 2)", 1).times(36, "step()", 0);
        r.asks("about(2)", 39).does("step()", 0).asks("about(2)", 40).does("head(0, 1)", 2).still("step()", LATE).still("step()", LATE)
            .where(0, 0, WALKS).asks("about(2)", 40).asks("about(12)", 16);
        run("LATE: THE STEP is 40, in a new object").times(40, "step()", 0).still("step()", LATE).does("undo()", 15).does("step()", 0)
            .still("step()", LATE);
    }

    // ---- promise 11: who is lost

    private static void drownedByOneDeeper() {
        for (int wade = 0; wade <= 5; wade++) {
            // On CELL 1 from STEP 10 on, where it is as deep as STEPS are from 10.
            Run r = run("deeper by then than it wades: " + wade).bay(lowAt(1) + "W1" + wade).times(9, "step()", 0);
            if (wade == 0) r.does("step()", 0).does("head(0, 1)", 0).does("step()", 1).where(0, 1, DROWNED);
            else r.does("head(0, 1)", 0).does("step()", 0).does("head(0, 0)", 1).times(wade, "step()", 0);
            if (wade > 0) r.asks("cell(1, 1)", wade).where(0, 1, WALKS).does("step()", 1).asks("cell(1, 1)", wade + 1).where(0, 1, DROWNED);
        }
    }

    private static void drownedByThen() {
        // At 0 CELL 1 is bare, at 1 it is 3 deep, RISE 3.
        run("on a CELL that is deeper by then").bay("B9099999999" + "00" + "3" + "0" + "W12W13").does("head(0, 1)", 0).does("head(1, 1)", 0)
            .does("step()", 1).where(0, 1, DROWNED).where(1, 1, WALKS).does("step()", 0).where(1, 2, WALKS);
        // One that goes off ahead of it is not DROWNED, one that stands is.
        run("on the CELL to which it went").bay("B9099999999" + "00" + "1" + "0" + "W11W11").does("head(0, 1)", 0).does("head(1, 1)", 0)
            .does("step()", 0).does("head(1, 0)", 1).does("step()", 2).where(0, 2, WALKS).where(1, 1, DROWNED);
    }

    private static void drownedNotOnTheShores() {
        Run r = run("on the shores nothing is deep: nobody is DROWNED there").bay("B0000000000" + "00" + "3" + "9" + "W10W20W30")
            .does("head(0, 1)", 0).does("head(1, 2)", 0);
        r.times(40, "step()", 0).where(0, 0, WALKS).where(1, 0, WALKS).where(2, 0, WALKS).asks("about(7)", 7);
    }

    private static void drownedNoMore() {
        Run r = Fates.reached(run("who is DROWNED or STUCK by it: not again, and nobody lost goes on"));
        r.times(10, "step()", 0).where(0, 9, OVER).where(1, 1, DROWNED).where(2, 1, STUCK).where(3, 1, UP).where(4, 0, WALKS);
    }

    private static void stuckWhoDidNotGoAtAll() {
        Run r = run("if it did not go at all and its CELL is SOFT, it is STUCK").bay(DRY + "W10W10W10W20W20" + "S1");
        for (int walker = 0; walker <= 4; walker++) r.does("head(" + walker + ", 1)", 0);
        r.does("step()", 0).where(0, 1, WALKS).where(3, 2, WALKS).does("head(0, 0)", 1).does("head(1, 2)", 1).does("head(3, 0)", 1);
        r.does("step()", 1).where(0, 1, STUCK).where(1, 0, WALKS).where(2, 2, WALKS).where(3, 2, WALKS).where(4, 4, WALKS);
        r.does("step()", 0).where(0, 1, STUCK).where(1, 0, WALKS);
    }

    private static void stuckWhoCouldNotGo() {
        // CELL 2 is 4 deep and more: from CELL 1, soft, none goes on that wades 3; from CELL 3, soft, none goes back.
        Run r = run("it did not go at all, though it HEADED on").bay("B9909999999" + "06" + "1" + "0" + "W13" + "S1").does("head(0, 1)", 0)
            .does("step()", 0).where(0, 1, WALKS).asks("cell(2, 1)", 5).does("step()", 1).where(0, 1, STUCK);
        Run s = run("it did not go at all, though it HEADED back").bay("B9909999999" + "02" + "1" + "0" + "W30" + "S3").times(2, "step()", 0)
            .does("head(0, 1)", 0).does("step()", 0).does("head(0, 2)", 1).does("step()", 1).where(0, 3, STUCK);
        r.asks("about(10)", 1);
        s.asks("about(9)", 0);
    }

    private static void notStuckWhoWent() {
        // From CELL 1 to 2, where it is to go three: it went, so it is not STUCK, whatever is SOFT.
        Run r = run("not STUCK: it went").bay("B9990999999" + "09" + "1" + "0" + "W20" + "S1S2S4").does("head(0, 1)", 0).does("step()", 0)
            .where(0, 2, WALKS).does("head(0, 2)", 1).does("step()", 0).where(0, 0, WALKS);
        Run s = run("not STUCK: one CELL of three").bay("B9999099999" + "20" + "1" + "0" + "W20" + "S1S2S3").does("head(0, 1)", 0).does("step()", 0)
            .where(0, 2, WALKS).does("step()", 0).where(0, 3, WALKS).does("step()", 1).where(0, 3, STUCK);
        Run t = run("not STUCK: on the shore").bay(DRY + "W10" + "S1S2S3S4S5S6S7S8").times(5, "step()", 0).does("head(0, 1)", 0).times(8, "step()", 0)
            .where(0, 8, WALKS).does("step()", 0).where(0, 9, OVER).times(2, "step()", 0).where(0, 9, OVER);
        r.asks("about(10)", 0);
        s.asks("about(10)", 1);
        t.asks("about(10)", 0);
    }

    private static void drownedRatherThanStuck() {
        // It stands on CELL 1, soft: 1 deep at 1, 2 deep at 2.
        run("DROWNED; else STUCK").bay("B9099999999" + "00" + "1" + "0" + "W11W12" + "S1")
            .does("head(0, 1)", 0).does("head(1, 1)", 0).does("step()", 0).does("head(0, 0)", 1).does("head(1, 0)", 1).does("step()", 3)
            .where(0, 1, DROWNED).where(1, 1, STUCK).asks("about(9)", 1).asks("about(10)", 2);
    }

    private static void overByHeadingOn() {
        for (int pace = 1; pace <= 3; pace++) {
            Run r = run("Who comes to CELL 9 by HEADING on is OVER, and WALKS no more").bay(DRY + "W" + pace + "0").does("head(0, 1)", 0);
            for (int cell = pace; cell < 9; cell += pace) r.does("step()", 0).where(0, cell, WALKS);
            r.does("step()", 0).where(0, 9, OVER).still("about(7)", 0).still("about(8)", 1).still("head(0, 2)", LATE).does("step()", 0)
                .where(0, 9, OVER);
        }
    }

    private static void overAtTheLastStep() {
        run("OVER at STEP 40").bay(DRY + "W10W10").times(31, "step()", 0).does("head(0, 1)", 0).does("step()", 0).does("head(1, 1)", 0)
            .times(8, "step()", 0).where(0, 9, OVER).where(1, 8, WALKS).still("step()", LATE).asks("about(2)", 40);
    }

    private static void stepOfNobody() {
        run("A STEP of nobody").does("step()", 0).asks("about(2)", 1).asks("about(12)", 1).does("undo()", 0).asks("about(2)", 0);
    }

    // ---- promise 12

    private static void climbTillItIsFull() {
        for (int room = 1; room <= 4; room++) {
            Run r = run("a TOWER that is not full; FULL: for " + room).bay(DRY + "W10W10W10W10W10" + "T1" + room);
            for (int walker = 0; walker <= 4; walker++) r.does("head(" + walker + ", 1)", 0);
            r.does("step()", 0);
            for (int k = 0; k < room; k++) r.does("climb(" + (4 - k) + ")", k + 1).asks("cell(1, 4)", k + 1);
            for (int walker = 0; walker < 5 - room; walker++) r.still("climb(" + walker + ")", FULL);
            r.asks("cell(1, 4)", room).asks("about(7)", (1 << 5 - room) - 1);
        }
    }

    private static void climbUnknown() {
        for (int n = 0; n <= 5; n++) {
            Run r = run("climb: UNKNOWN, of " + n).bay(DRY + "W10".repeat(n) + "T11");
            for (String walker : new String[] {"-1", "" + n, "5", "6", "MIN", "MAX"}) r.still("climb(" + walker + ")", UNKNOWN);
        }
        run("climb: UNKNOWN in a new object").still("climb(0)", UNKNOWN);
    }

    private static void climbWithoutATower() {
        Run r = run("climb: LATE: there is no TOWER").bay(DRY + "W10" + "T31T51").still("climb(0)", LATE).does("head(0, 1)", 0);
        for (int cell = 1; cell <= 8; cell++) {
            r.does("step()", 0);
            if (cell == 3 || cell == 5) r.does("climb(0)", 1).does("undo()", cell + 1).where(0, cell, WALKS);
            else r.still("climb(0)", LATE);
        }
        run("climb: LATE, no TOWER at all").bay(DRY + "W10").does("head(0, 1)", 0).does("step()", 0).still("climb(0)", LATE);
    }

    private static void climbOfOneThatDoesNotWalk() {
        // As with Fates, but the TOWER has room.
        Run r = Fates.reached(run("climb: LATE: it does not WALK"), "B0000000000" + "02" + "1" + "0" + "W35W10W15W15W15" + "S1T14");
        for (int walker = 0; walker <= 4; walker++) r.still("climb(" + walker + ")", LATE);
        r.asks("cell(1, 4)", 1);
    }

    private static void climbLateAheadOfFull() {
        Run r = Fates.reached(run("climb: LATE is told ahead of FULL")).asks("cell(1, 3)", 1).asks("cell(1, 4)", 1);
        for (int walker = 1; walker <= 3; walker++) r.still("climb(" + walker + ")", LATE);
        r.does("head(4, 1)", 0).does("step()", 0).where(4, 1, WALKS).still("climb(4)", FULL);
    }

    private static void climbAtTheLastStep() {
        run("climb: nothing is late at STEP 40").bay(DRY + "W10" + "T11").does("head(0, 1)", 0).does("step()", 0).does("head(0, 0)", 1)
            .times(39, "step()", 0).still("step()", LATE).does("climb(0)", 1).where(0, 1, UP);
    }

    private static void upLives() {
        Run r = run("UP: it WALKS no more, and lives").bay("B9099999999" + "00" + "3" + "0" + "W15" + "T11S1").does("head(0, 1)", 0).does("step()", 0)
            .does("climb(0)", 1).times(39, "step()", 0);
        r.where(0, 1, UP).asks("cell(1, 1)", 9).asks("about(11)", 1).asks("about(7)", 0).asks("saved()", 1);
    }

    // ---- promise 13

    private static void undoOfNone() {
        run("undo: LATE: there is none, in a new object").still("undo()", LATE);
        run("undo: LATE: there is none, in a bay").bay(DRY + "W10").still("undo()", LATE).does("head(0, 1)", 0).does("undo()", 0)
            .still("undo()", LATE);
    }

    private static void undoOfEachAct() {
        Run r = run("The last ACT is undone: how many are left").bay("B9099999999" + "00" + "1" + "0" + "W10W20" + "T21S1");
        r.does("head(0, 1)", 0).does("head(1, 1)", 0).does("step()", 1).does("climb(1)", 1).where(0, 1, DROWNED).where(1, 2, UP).asks("about(2)", 1);
        r.does("undo()", 3).where(1, 2, WALKS).where(0, 1, DROWNED).asks("cell(2, 4)", 0);
        r.does("undo()", 2).where(1, 0, WALKS).where(0, 0, WALKS).asks("about(2)", 0).asks("walker(1, 3)", 1);
        r.does("undo()", 1).asks("walker(1, 3)", 0).asks("walker(0, 3)", 1).does("undo()", 0).asks("walker(0, 3)", 0).still("undo()", LATE);
        // OVER and STUCK are undone too.
        Run s = run("OVER and STUCK undone").bay(DRY + "W30W10" + "S1").does("head(0, 1)", 0).does("head(1, 1)", 0).does("step()", 0)
            .does("head(1, 0)", 1).does("step()", 2).does("step()", 0);
        s.where(0, 9, OVER).where(1, 1, STUCK).does("undo()", 5).where(0, 6, WALKS).where(1, 1, STUCK).does("undo()", 4).where(0, 3, WALKS)
            .where(1, 1, WALKS).does("step()", 2);
    }

    private static void undoOfTheTower() {
        run("FULL no more when CLIMBED is undone").bay(DRY + "W10W10" + "T11").does("head(0, 1)", 0).does("head(1, 1)", 0).does("step()", 0)
            .does("climb(0)", 1).still("climb(1)", FULL).does("undo()", 3).does("climb(1)", 1).still("climb(0)", FULL);
    }

    /** Heads by turns, so many: on, back, on, .. */
    private static Run turns(Run r, int from, int to) {
        for (int k = from; k <= to; k++) {
            r.does("head(0, " + (k % 2 == 1 ? 1 : 2) + ")", k == 1 ? 0 : k % 2 == 1 ? 2 : 1).asks("about(12)", Math.min(16, k));
        }
        return r;
    }

    private static void actsAre16AtMost() {
        Run r = turns(run("ACTS are a row (16 at most): just full").bay(DRY + "W10"), 1, 16);
        for (int left = 15; left >= 0; left--) r.does("undo()", left).asks("walker(0, 3)", left == 0 ? 0 : left % 2 == 1 ? 1 : 2);
        r.still("undo()", LATE);
        Run s = turns(run("ACTS: one ahead of full").bay(DRY + "W10"), 1, 15);
        for (int left = 14; left >= 0; left--) s.does("undo()", left);
        s.still("undo()", LATE).asks("walker(0, 3)", 0);
    }

    private static void actsForgetTheFirst() {
        for (int acts = 17; acts <= 20; acts++) {
            Run r = turns(run("when it is full, the first one is forgotten: of " + acts).bay(DRY + "W10"), 1, acts).still("about(12)", 16);
            for (int left = 15; left >= 0; left--) r.does("undo()", left).asks("walker(0, 3)", (acts - 16 + left) % 2 == 1 ? 1 : 2);
            r.still("undo()", LATE).still("about(12)", 0);
        }
        // By STEPS it is seen which one was forgotten.
        Run s = run("when it is full, the first one is forgotten: STEPS").times(40, "step()", 0);
        for (int left = 15; left >= 0; left--) s.does("undo()", left).asks("about(2)", 24 + left);
        s.still("undo()", LATE).asks("about(2)", 24);
        // CLIMBED and HEADED push out too.
        Run t = run("the first one is forgotten by any ACT").bay(DRY + "W10" + "T11").times(14, "step()", 0).does("head(0, 1)", 0).does("step()", 0)
            .asks("about(12)", 16).does("climb(0)", 1).asks("about(12)", 16);
        t.times(1, "undo()", 15).where(0, 1, WALKS);
        for (int left = 14; left >= 0; left--) t.does("undo()", left);
        t.asks("about(2)", 1).still("undo()", LATE);
    }

    private static void actsRoundAndRound() {
        Run r = run("undone and done again, over the end of the row").bay(DRY + "W10").times(20, "step()", 0);
        for (int left = 15; left >= 8; left--) r.does("undo()", left);
        r.asks("about(2)", 12).times(10, "step()", 0).asks("about(12)", 16).asks("about(2)", 22);
        for (int left = 15; left >= 0; left--) r.does("undo()", left).asks("about(2)", 6 + left);
        r.still("undo()", LATE).does("step()", 0).asks("about(12)", 1).does("undo()", 0).asks("about(2)", 6);
    }

    private static void whatIsRefusedIsNoAct() {
        Run r = Fates.reached(run("what is refused is no ACT")).asks("about(12)", 10);
        for (String call : new String[] {"head(0, 1)", "head(4, 0)", "climb(4)", "climb(1)", "again(0)"}) r.still(call, LATE);
        r.still("head(5, 1)", UNKNOWN).still("head(4, 3)", BAD).asks("about(12)", 10).does("undo()", 9).asks("about(2)", 3);
    }

    private static void undoLeavesAllElse() {
        Run r = run("undo: only the ACT is undone").bay(DRY + "W10").does("step()", 0).does("seed(6)", 0).does("keep(0)", 1).does("wipe()", 18)
            .does("undo()", 0);
        r.asks("about(13)", 0).asks("about(0)", 1).does("seed(6)", 6).does("again(0)", 1).asks("about(2)", 1).still("undo()", LATE);
    }
}
