/** The edges of GONE .. SAVED, and of promises 14 to 22: gone, latest, safest, shells, cut, judged, ahead, aheadOf, saved. */
public final class EdgeWaysTest {
    private static final int BAD = OverSands.BAD, UNKNOWN = OverSands.UNKNOWN, LATE = OverSands.LATE, NONE = OverSands.NONE;
    private static final String DRY = "B9999999999" + "00" + "1" + "0";
    /** WATER is as many as the STEPS from 20. */
    private static final String TIDE = "B0000000000" + "20" + "1" + "0";
    private static final Check CHECK = new Check("EdgeWaysTest");

    public static void main(String[] args) {
        goneBeginsThere();
        goneTill40();
        goneByAll40Steps();
        goneDrowned();
        goneStuck();
        goneWaits();
        goneFromACellThatIsTooDeep();
        goneAsIfItWalked();
        goneUnknown();
        goneBad();
        goneRefusedTwice();
        latestAtTheEnds();
        latestNone();
        latestWhateverIsNow();
        latestWhateverTheStepIs();
        latestUnknown();
        safestBits();
        safestUpWhereItIsNotFull();
        safestSoonest();
        safestOfLikeOnes();
        safestRefused();
        shellsAtTheEnds();
        shellsNotDrowned();
        shellsNotStuck();
        shellsNotAtAll();
        shellsThoughNotAtOnce();
        shellsRefused();
        cutFromTheStepOn();
        cutByItsOwnCell();
        cutByOneDeeper();
        cutBy40();
        cutOnTheShores();
        cutUnknown();
        judgedFigures();
        judgedReadFromTheFirst();
        judgedRow();
        judgedDrownedOrStuck();
        judgedDoesNotWalk();
        judgedAt40();
        judgedAnotherFigure();
        judgedAsItIsNow();
        judgedRefused();
        aheadSoonest();
        aheadAtTheEnds();
        aheadLastBegin();
        aheadNone();
        aheadRefused();
        savedAtTheEnds();
        savedByTowers();
        savedOnlyWhoWalks();
        savedAt40();
        eachByItsOwnPaceAndWade();
        eachAsIfItWereAlone();
        CHECK.end();
    }

    private static Run run(String sentence) {
        return new Run(CHECK, sentence);
    }

    /** On dry sands WALKER 0, of PACE 1, stands on a CELL at a STEP. */
    private static Run standing(String sentence, String parts, int cell, int step) {
        Run r = run(sentence + " (CELL " + cell + " at " + step + ")").bay(DRY + "W10" + parts).times(step - cell, "step()", 0);
        if (cell > 0) r.does("head(0, 1)", 0).times(cell, "step()", 0);
        return r.where(0, cell, 0).asks("about(2)", step);
    }

    // ---- promise 14

    private static void goneBeginsThere() {
        Run r = run("if it begins there, at that STEP").bay("B0000000000" + "20" + "3" + "9" + "W10W35" + "S1S8");
        for (int step : new int[] {0, 1, 20, 39, 40}) {
            r.still("gone(0, 9, " + step + ", 1)", step).still("gone(0, 0, " + step + ", 2)", step).still("gone(1, 9, " + step + ", 1)", step)
                .still("gone(1, 0, " + step + ", 2)", step);
        }
    }

    private static void goneTill40() {
        Run r = run("or THE STEP is 40: NONE: it comes not").bay(DRY + "W10W20W30");
        r.still("gone(0, 8, 39, 1)", 40).still("gone(0, 8, 40, 1)", NONE).still("gone(0, 1, 39, 2)", 40).still("gone(0, 1, 40, 2)", NONE);
        r.still("gone(0, 0, 31, 1)", 40).still("gone(0, 0, 32, 1)", NONE).still("gone(0, 9, 31, 2)", 40).still("gone(0, 9, 32, 2)", NONE);
        r.still("gone(1, 0, 35, 1)", 40).still("gone(1, 0, 36, 1)", NONE).still("gone(1, 9, 35, 2)", 40).still("gone(1, 9, 36, 2)", NONE);
        r.still("gone(2, 0, 37, 1)", 40).still("gone(2, 0, 38, 1)", NONE).still("gone(2, 9, 37, 2)", 40).still("gone(2, 9, 38, 2)", NONE);
        r.still("gone(0, 0, 40, 1)", NONE).still("gone(0, 9, 40, 2)", NONE).still("gone(0, 0, 0, 1)", 9).still("gone(0, 9, 0, 2)", 9);
        r.still("gone(2, 7, 39, 1)", 40).still("gone(2, 6, 39, 1)", 40).still("gone(2, 5, 39, 1)", NONE).still("gone(2, 2, 39, 2)", 40)
            .still("gone(2, 3, 39, 2)", 40).still("gone(2, 4, 39, 2)", NONE);
    }

    private static void goneByAll40Steps() {
        // Bare from 37 on: from 0 on it waits on the shore, then it goes by CELLS 3, 6, 9 (or back by 6, 3, 0), and is there just at 40.
        Run r = run("it goes STEP by STEP, from STEP 0 till THE STEP is 40").bay("B3333333333" + "40" + "1" + "0" + "W30");
        for (int step : new int[] {0, 1, 36, 37}) r.still("gone(0, 0, " + step + ", 1)", 40).still("gone(0, 9, " + step + ", 2)", 40);
        r.still("gone(0, 0, 38, 1)", NONE).still("gone(0, 9, 38, 2)", NONE);
    }

    private static void goneDrowned() {
        // By PACE 1 from CELL 5 it is on CELLS 6, 7, 8, 9 one, two, three, four STEPS later, and there last 3 STEPS later on the sands.
        Run r = run("till it is DROWNED").bay(TIDE + "W15");
        r.still("gone(0, 5, 22, 1)", 26).still("gone(0, 5, 23, 1)", NONE).still("gone(0, 4, 22, 2)", 26).still("gone(0, 4, 23, 2)", NONE);
        r.still("gone(0, 8, 24, 1)", 25).still("gone(0, 7, 24, 1)", 26).still("gone(0, 7, 25, 1)", NONE).still("gone(0, 1, 25, 2)", 26)
            .still("gone(0, 2, 25, 2)", NONE);
    }

    private static void goneStuck() {
        // CELL 4 is 4 deep at 0, and is left free for one that wades 2 from 2 on.
        Run r = run("till it is STUCK").bay("B9999099999" + "04" + "1" + "0" + "W12" + "S3S5");
        r.still("gone(0, 3, 0, 1)", NONE).still("gone(0, 3, 1, 1)", NONE).still("gone(0, 3, 2, 1)", 8).still("gone(0, 2, 0, 1)", NONE)
            .still("gone(0, 2, 1, 1)", 8).still("gone(0, 1, 0, 1)", 8);
        r.still("gone(0, 5, 0, 2)", NONE).still("gone(0, 5, 1, 2)", NONE).still("gone(0, 5, 2, 2)", 7).still("gone(0, 6, 0, 2)", NONE)
            .still("gone(0, 6, 1, 2)", 7);
    }

    private static void goneWaits() {
        // On CELL 3, not soft, it waits for the water; on the shore too.
        Run r = run("it goes alone so, STEP by STEP").bay("B9999099999" + "04" + "1" + "0" + "W12W10");
        r.still("gone(0, 3, 0, 1)", 8).still("gone(0, 3, 2, 1)", 8).still("gone(0, 3, 6, 1)", NONE).still("gone(0, 5, 0, 2)", 7);
        run("it waits on the shore").bay("B9000000009" + "20" + "1" + "0" + "W35").still("gone(0, 0, 0, 1)", 19).still("gone(0, 0, 15, 1)", 19)
            .still("gone(0, 0, 16, 1)", 20);
    }

    private static void goneFromACellThatIsTooDeep() {
        // DROWNED is only who is too deep behind a STEP: to a shore that is near enough it still comes.
        Run r = run("GONE from a CELL that is too deep").bay("B0000000000" + "00" + "3" + "9" + "W10W30");
        r.still("gone(0, 8, 0, 1)", 1).still("gone(0, 1, 0, 2)", 1).still("gone(0, 8, 39, 1)", 40).still("gone(0, 8, 40, 1)", NONE);
        r.still("gone(0, 7, 0, 1)", NONE).still("gone(0, 2, 0, 2)", NONE).still("gone(1, 7, 0, 1)", NONE).still("gone(1, 8, 0, 2)", NONE);
    }

    private static void goneAsIfItWalked() {
        Run r = Fates.reached(run("GONE from a CELL at a STEP: however it is now"));
        for (int walker = 0; walker <= 4; walker++) {
            r.still("gone(" + walker + ", 9, 3, 1)", 3).still("gone(" + walker + ", 0, 3, 2)", 3).still("gone(" + walker + ", 8, 2, 1)", 3);
        }
    }

    private static void goneUnknown() {
        Run r = run("gone: UNKNOWN: walker, cell").bay(TIDE + "W35W35");
        for (String walker : new String[] {"-1", "2", "5", "MIN", "MAX"}) r.still("gone(" + walker + ", 0, 0, 1)", UNKNOWN);
        for (String cell : new String[] {"-1", "10", "11", "MIN", "MAX"}) r.still("gone(1, " + cell + ", 0, 1)", UNKNOWN);
        r.still("gone(2, 10, 0, 1)", UNKNOWN);
        run("gone: UNKNOWN, nobody").still("gone(0, 0, 0, 1)", UNKNOWN);
    }

    private static void goneBad() {
        Run r = run("gone: BAD: way (1 on, 2 back), step").bay(TIDE + "W35");
        for (String way : new String[] {"0", "3", "-1", "4", "MIN", "MAX"}) r.still("gone(0, 5, 5, " + way + ")", BAD);
        for (String step : new String[] {"-1", "41", "42", "MIN", "MAX"}) {
            r.still("gone(0, 5, " + step + ", 1)", BAD).still("gone(0, 9, " + step + ", 1)", BAD).still("gone(0, 0, " + step + ", 2)", BAD);
        }
        r.still("gone(0, 5, 41, 3)", BAD).still("gone(0, 9, 40, 1)", 40).still("gone(0, 0, 0, 2)", 0);
    }

    private static void goneRefusedTwice() {
        Run r = run("gone: UNKNOWN is told ahead of BAD").bay(TIDE + "W35");
        for (String told : new String[] {"1, 0", "-1, 0", "0, 10", "0, -1"}) {
            r.still("gone(" + told + ", 41, 1)", UNKNOWN).still("gone(" + told + ", 0, 0)", UNKNOWN).still("gone(" + told + ", -1, 3)", UNKNOWN);
        }
    }

    // ---- promise 15

    private static void latestAtTheEnds() {
        run("LATEST by 40, on dry sands").bay(DRY + "W10W20W30").still("latest(0)", 31).still("latest(1)", 35).still("latest(2)", 37);
        // CELLS 3, 5, 7 at 3, where it is just 3 deep; a STEP later that is one more.
        run("LATEST is 0").bay("B0000000000" + "00" + "1" + "0" + "W33").still("latest(0)", 0);
    }

    private static void latestNone() {
        run("LATEST: NONE").bay("B0000000000" + "00" + "1" + "0" + "W32").still("latest(0)", NONE);
        run("LATEST: NONE, water all the time").bay("B0000000000" + "00" + "1" + "9" + "W35").still("latest(0)", NONE);
        run("LATEST: NONE, STUCK on CELL 2").bay("B9990999999" + "40" + "1" + "0" + "W30" + "S2").still("latest(0)", NONE);
        // CELL 1 is soft: who begins too soon is STUCK there, for CELL 2 is too deep; who begins too late is DROWNED on CELL 2.
        run("LATEST: the last STEP, not the first").bay("B9909999999" + "20" + "1" + "0" + "W15" + "S1").still("gone(0, 0, 0, 1)", NONE)
            .still("gone(0, 0, 13, 1)", NONE).still("gone(0, 0, 14, 1)", 23).still("latest(0)", 23).still("gone(0, 0, 23, 1)", 32)
            .still("gone(0, 0, 24, 1)", NONE);
    }

    private static void latestWhateverIsNow() {
        Run r = Fates.reached(run("LATEST: it begins on CELL 0, however it is now"));
        // WATER is as many as STEPS from 2.
        r.still("latest(0)", 4).still("latest(1)", NONE).still("latest(2)", NONE).still("latest(3)", NONE).still("latest(4)", NONE);
    }

    private static void latestWhateverTheStepIs() {
        Run r = run("LATEST: the last STEP (0 .. 40), whatever THE STEP is").bay(TIDE + "W35").still("latest(0)", 22).times(23, "step()", 0);
        r.still("latest(0)", 22).times(17, "step()", 0).still("latest(0)", 22).still("ahead()", 19).still("aheadOf(0)", 15);
    }

    private static void latestUnknown() {
        Run r = run("latest: UNKNOWN").bay(DRY + "W10W10");
        for (String walker : new String[] {"-1", "2", "5", "MIN", "MAX"}) r.still("latest(" + walker + ")", UNKNOWN);
        run("latest: UNKNOWN, nobody").still("latest(0)", UNKNOWN);
    }

    // ---- promise 16

    private static void safest(String parts, int cell, int step, int bits, int soonest) {
        standing("SAFEST: bits 0, 1, 2; which is soonest", parts, cell, step).still("safest(0, 0)", bits).still("safest(0, 1)", soonest);
    }

    private static void safestBits() {
        safest("", 4, 39, 0, NONE);
        safest("", 8, 39, 1, 0);
        safest("", 1, 39, 2, 1);
        safest("", 4, 20, 3, 1);
        safest("", 5, 20, 3, 0);
        safest("T41", 4, 39, 4, 2);
        safest("T81", 8, 39, 5, 2);
        safest("T11", 1, 39, 6, 2);
        safest("T41", 4, 20, 7, 2);
        safest("T41", 4, 40, 4, 2);
        safest("", 8, 40, 0, NONE);
        safest("", 1, 40, 0, NONE);
        safest("T11", 0, 40, 2, 1);
        safest("T11", 0, 0, 3, 1);
        safest("T31T51", 4, 39, 0, NONE);
    }

    private static void safestUpWhereItIsNotFull() {
        for (int room = 1; room <= 4; room++) {
            Run r = run("up: only on a CELL of a TOWER that is not full: for " + room).bay(DRY + "W10W10W10W10W10" + "T1" + room);
            for (int walker = 0; walker <= 4; walker++) r.does("head(" + walker + ", 1)", 0);
            r.does("step()", 0);
            for (int k = 0; k < room; k++) r.still("safest(4, 0)", 7).still("safest(4, 1)", 2).does("climb(" + k + ")", k + 1);
            r.still("safest(4, 0)", 3).still("safest(4, 1)", 1);
        }
    }

    private static void safestSoonest() {
        // From each CELL by PACE 1: over takes 9 - c, back takes c.
        for (int cell = 0; cell <= 8; cell++) safest("", cell, 10, 3, cell <= 4 ? 1 : 0);
        // From CELL 5 at 35 it is just over at 39, back at 40; at 36 only over, at 37 not.
        safest("", 5, 35, 3, 0);
        safest("", 5, 36, 1, 0);
        safest("", 5, 37, 0, NONE);
        safest("", 4, 36, 2, 1);
    }

    private static void safestOfLikeOnes() {
        // CELL 3 is 1 deep at 11: it goes on by two, to CELL 5; from there 8, 9 and 2, 0 are both at 14.
        Run r = run("of like ones the least").bay("B9990999999" + "10" + "1" + "0" + "W35" + "T52").times(10, "step()", 0).does("head(0, 1)", 0)
            .times(2, "step()", 0).where(0, 5, 0);
        r.still("gone(0, 5, 12, 1)", 14).still("gone(0, 5, 12, 2)", 14).still("safest(0, 0)", 7).still("safest(0, 1)", 2);
        Run s = run("of like ones the least").bay("B9990999999" + "10" + "1" + "0" + "W35").times(10, "step()", 0).does("head(0, 1)", 0)
            .times(2, "step()", 0).where(0, 5, 0);
        s.still("safest(0, 0)", 3).still("safest(0, 1)", 0);
    }

    private static void safestRefused() {
        Run r = Fates.reached(run("safest: UNKNOWN; BAD; LATE: it does not WALK"));
        for (String walker : new String[] {"-1", "5", "MIN", "MAX"}) {
            r.still("safest(" + walker + ", 0)", UNKNOWN).still("safest(" + walker + ", 2)", UNKNOWN).still("safest(" + walker + ", -1)", UNKNOWN);
        }
        for (String what : new String[] {"-1", "2", "3", "MIN", "MAX"}) {
            r.still("safest(4, " + what + ")", BAD).still("safest(0, " + what + ")", BAD).still("safest(1, " + what + ")", BAD);
        }
        for (int walker = 0; walker <= 3; walker++) r.still("safest(" + walker + ", 0)", LATE).still("safest(" + walker + ", 1)", LATE);
        r.still("safest(4, 0)", 2).still("safest(4, 1)", 1);
    }

    // ---- promise 17

    private static void shellsAtTheEnds() {
        run("SHELLS 0 .. 40: on the shore").bay("B0000000000" + "00" + "3" + "9" + "W10").still("shells(0)", 40).times(39, "step()", 0)
            .still("shells(0)", 1).does("step()", 0).still("shells(0)", 0);
        for (int cell = 1; cell <= 8; cell++) {
            int way = Math.min(cell, 9 - cell);
            standing("SHELLS on dry sands", "", cell, 20).still("shells(0)", 20 - way);
            standing("SHELLS on dry sands: just at once", "", cell, 40 - way).still("shells(0)", 0);
            standing("SHELLS on dry sands: not at all", "", cell, 40 - way + 1).still("shells(0)", NONE);
        }
    }

    private static void shellsNotDrowned() {
        // On CELL 1, as deep as STEPS are from 10; all else lies high. Back it comes at once however deep CELL 1 is.
        for (int wade = 1; wade <= 5; wade++) {
            Run r = run("SHELLS: it is not DROWNED by that: " + wade).bay("B9099999999" + "10" + "1" + "0" + "W1" + wade).times(9, "step()", 0)
                .does("head(0, 1)", 0).does("step()", 0).where(0, 1, 0);
            r.still("shells(0)", wade).does("head(0, 0)", 1).times(wade, "step()", 0).still("shells(0)", 0).does("step()", 1)
                .still("shells(0)", LATE);
        }
    }

    private static void shellsNotStuck() {
        standing("SHELLS: it is not STUCK by that", "S4", 4, 20).still("shells(0)", 0);
        standing("SHELLS: it is not STUCK by that", "S3S5", 4, 20).still("shells(0)", 16);
        // It can wait on CELL 1 (not soft), though CELL 2, that it goes over, is soft.
        standing("SHELLS: only its own CELL", "S2S3", 4, 20).still("shells(0)", 16);
    }

    private static void shellsNotAtAll() {
        // On CELL 3 amid water that comes: neither on nor back.
        Run r = run("SHELLS: NONE: not at all").bay("B9909099999" + "02" + "1" + "0" + "W30").times(2, "step()", 0).does("head(0, 1)", 0)
            .does("step()", 0).where(0, 3, 0).still("shells(0)", NONE).still("safest(0, 0)", 0);
        r.does("head(0, 0)", 1).does("step()", 0).still("shells(0)", NONE);
        // Between CELLS 1 and 4, which lie low: till 25 it can still go back over CELL 1.
        String between = "B9099099999" + "20" + "1" + "0" + "W25";
        run("SHELLS: by going then").bay(between).times(14, "step()", 0).does("head(0, 1)", 0).times(2, "step()", 0).where(0, 2, 0)
            .still("shells(0)", 9);
        run("SHELLS: by going then, on a SOFT one").bay(between + "S2").times(14, "step()", 0).does("head(0, 1)", 0).times(2, "step()", 0)
            .where(0, 2, 0).still("shells(0)", 0);
    }

    private static void shellsThoughNotAtOnce() {
        // On CELL 6 at 36: at once it would be STUCK on CELL 7, for CELL 8 is too deep till 38, and back it would come at 42.
        // One STEP later it goes on and is over at 40.
        Run r = run("SHELLS: at most, though it can not go at once").bay("B0867986701" + "39" + "2" + "2" + "W14" + "S1S7S8");
        r.times(30, "step()", 0).does("head(0, 1)", 0).times(6, "step()", 0).where(0, 6, 0).still("safest(0, 0)", 0).still("saved()", 0);
        r.still("shells(0)", 1).does("head(0, 0)", 1).does("step()", 0).still("shells(0)", 0).still("safest(0, 0)", 1).still("gone(0, 6, 37, 1)", 40);
        r.does("step()", 0).still("shells(0)", NONE);
    }

    private static void shellsRefused() {
        Run r = Fates.reached(run("shells: UNKNOWN; LATE: it does not WALK"));
        for (String walker : new String[] {"-1", "5", "MIN", "MAX"}) r.still("shells(" + walker + ")", UNKNOWN);
        for (int walker = 0; walker <= 3; walker++) r.still("shells(" + walker + ")", LATE);
        r.still("shells(4)", 36);
        run("shells: UNKNOWN, nobody").still("shells(0)", UNKNOWN);
    }

    // ---- promise 18

    private static void cutFromTheStepOn() {
        // On CELL 2, high; CELL 1 is as deep as STEPS are from 10: too deep behind 10 + 2.
        Run r = run("CUT: from THE STEP on").bay("B9099999999" + "10" + "1" + "0" + "W22").times(9, "step()", 0).does("head(0, 1)", 0)
            .does("step()", 0).where(0, 2, 0).does("head(0, 0)", 1);
        r.still("cut(0)", 13).times(2, "step()", 0).still("cut(0)", 13).does("step()", 0).still("cut(0)", 13).does("step()", 0).still("cut(0)", 14)
            .times(26, "step()", 0).still("cut(0)", 40);
    }

    private static void cutByItsOwnCell() {
        // CELL 3 is its own one, CELL 2 lies higher, CELL 4 lower.
        String bay = "B9952099999" + "10" + "1" + "0" + "W31";
        Run r = run("CUT: from its own CELL back").bay(bay).times(9, "step()", 0).does("head(0, 1)", 0).does("step()", 0).where(0, 3, 0)
            .still("cell(3, 0)", 2).still("cut(0)", 14);
        r.does("head(0, 0)", 1).times(3, "step()", 0).still("cut(0)", 14);
        run("CUT: a CELL behind").bay("B9925099999" + "10" + "1" + "0" + "W31").times(9, "step()", 0).does("head(0, 1)", 0).does("step()", 0)
            .where(0, 3, 0).still("cut(0)", 14);
        run("CUT: the CELL ahead does not count").bay("B9999099999" + "10" + "1" + "0" + "W31").times(9, "step()", 0).does("head(0, 1)", 0)
            .does("step()", 0).where(0, 3, 0).still("cut(0)", NONE);
    }

    private static void cutByOneDeeper() {
        for (int wade = 1; wade <= 5; wade++) {
            Run r = run("CUT: deeper than it wades: " + wade).bay("B9099999999" + "10" + "1" + "0" + "W1" + wade).times(9, "step()", 0)
                .does("head(0, 1)", 0).does("step()", 0).where(0, 1, 0);
            r.still("cut(0)", 11 + wade);
        }
    }

    private static void cutBy40() {
        run("CUT at 40").bay("B9099999999" + "37" + "1" + "0" + "W22").times(36, "step()", 0).does("head(0, 1)", 0).does("step()", 0).where(0, 2, 0)
            .still("cut(0)", 40).times(3, "step()", 0).still("cut(0)", 40);
        run("CUT: NONE: not by 40").bay("B9099999999" + "38" + "1" + "0" + "W22").times(36, "step()", 0).does("head(0, 1)", 0).does("step()", 0)
            .where(0, 2, 0).still("cut(0)", NONE).times(3, "step()", 0).still("cut(0)", NONE);
    }

    private static void cutOnTheShores() {
        run("CUT on CELL 0: nothing is deep there").bay("B0000000000" + "00" + "3" + "9" + "W10").still("cut(0)", NONE).times(40, "step()", 0)
            .still("cut(0)", NONE);
        Run r = Fates.reached(run("CUT for one that is OVER, DROWNED, STUCK, UP"));
        r.still("cut(0)", 8).still("cut(1)", 4).still("cut(2)", 8).still("cut(3)", 8).still("cut(4)", NONE);
    }

    private static void cutUnknown() {
        Run r = run("cut: UNKNOWN").bay(DRY + "W10W10");
        for (String walker : new String[] {"-1", "2", "5", "MIN", "MAX"}) r.still("cut(" + walker + ")", UNKNOWN);
        run("cut: UNKNOWN, nobody").still("cut(0)", UNKNOWN);
    }

    // ---- promise 19

    private static void judgedFigures() {
        Run r = run("JUDGED: n figures (1 .. 8)").bay(DRY + "W10");
        int most = 1;
        int ones = 0;
        for (int n = 1; n <= 8; n++) {
            most *= 10;
            ones = 10 * ones + 1;
            r.still("judged(0, " + n + ", " + ones + ")", NONE).still("judged(0, " + n + ", 0)", NONE)
                .still("judged(0, " + n + ", " + 2 * ones + ")", NONE);
            r.still("judged(0, " + n + ", " + (most - 1) + ")", 0).still("judged(0, " + n + ", " + most + ")", BAD);
        }
        for (String n : new String[] {"0", "9", "-1", "10", "MIN", "MAX"}) {
            r.still("judged(0, " + n + ", 0)", BAD).still("judged(0, " + n + ", 1)", BAD);
        }
    }

    private static void judgedReadFromTheFirst() {
        Run r = run("JUDGED: the place (0 the first)").bay(DRY + "W30");
        r.still("judged(0, 4, 1113)", 3).still("judged(0, 4, 3111)", 0).still("judged(0, 4, 1311)", 1).still("judged(0, 4, 1131)", 2);
        r.still("judged(0, 8, 3)", 7).still("judged(0, 8, 30)", 6).still("judged(0, 8, 30000000)", 0).still("judged(0, 8, 3000000)", 1)
            .still("judged(0, 3, 3)", 2).still("judged(0, 1, 3)", 0);
        r.still("judged(0, 8, 11)", NONE).still("judged(0, 8, 1110)", 7).still("judged(0, 8, 1111)", 7).still("judged(0, 8, 111)", NONE);
    }

    private static void judgedRow() {
        Run r = run("judged: BAD: row (0 or more, n figures at most)").bay(DRY + "W10");
        r.still("judged(0, 1, -1)", BAD).still("judged(0, 8, -1)", BAD).still("judged(0, 8, MIN)", BAD).still("judged(0, 8, MAX)", BAD)
            .still("judged(0, 1, 10)", BAD).still("judged(0, 1, 9)", 0);
        r.still("judged(0, 7, 10000000)", BAD).still("judged(0, 7, 9999999)", 0).still("judged(0, 8, 99999999)", 0)
            .still("judged(0, 8, 100000000)", BAD).still("judged(0, 9, 100000000)", BAD).still("judged(0, 0, -1)", BAD);
    }

    private static void judgedDrownedOrStuck() {
        // CELL 1 is bare at 0, 1 deep at 1, and so on.
        Run r = run("JUDGED: by which it is DROWNED").bay("B9099999999" + "00" + "1" + "0" + "W12W10").still("judged(0, 2, 10)", NONE)
            .still("judged(0, 3, 100)", 2).still("judged(0, 8, 10000000)", 2).still("judged(1, 1, 1)", 0).still("judged(1, 8, 11111111)", 0);
        r.still("judged(0, 3, 102)", NONE).still("judged(0, 3, 101)", NONE);
        Run s = run("JUDGED: by which it is STUCK").bay(DRY + "W10" + "S1S8").still("judged(0, 2, 10)", 1).still("judged(0, 8, 10000000)", 1)
            .still("judged(0, 3, 112)", NONE).still("judged(0, 4, 1120)", 3).still("judged(0, 8, 11111111)", NONE);
        s.still("judged(0, 8, 11111110)", NONE).times(3, "step()", 0).does("head(0, 1)", 0).does("step()", 0).still("judged(0, 8, 11111110)", 7)
            .still("judged(0, 1, 0)", 0);
    }

    private static void judgedDoesNotWalk() {
        Run r = run("JUDGED: it does not WALK then").bay(DRY + "W30").still("judged(0, 3, 111)", NONE).still("judged(0, 4, 1110)", 3)
            .still("judged(0, 4, 1111)", 3).still("judged(0, 4, 1112)", 3).still("judged(0, 8, 11100000)", 3);
        r.still("judged(0, 5, 11211)", NONE).still("judged(0, 5, 11011)", 4).still("judged(0, 8, 12121111)", 7);
        Run s = Fates.reached(run("JUDGED: it does not WALK now"));
        for (int walker = 0; walker <= 3; walker++) for (int figure = 0; figure <= 3; figure++) {
            s.still("judged(" + walker + ", 1, " + figure + ")", 0).still("judged(" + walker + ", 8, " + figure + ")", 0);
        }
    }

    private static void judgedAt40() {
        Run r = run("JUDGED: THE STEP is 40").bay(DRY + "W10").times(33, "step()", 0).still("judged(0, 7, 0)", NONE).still("judged(0, 8, 0)", 7)
            .times(6, "step()", 0).still("judged(0, 1, 1)", NONE).still("judged(0, 2, 11)", 1).does("step()", 0);
        for (int figure = 0; figure <= 3; figure++) r.still("judged(0, 1, " + figure + ")", 0);
        r.still("judged(0, 8, 11111111)", 0);
        // Over just at 40.
        standing("JUDGED: OVER at 40", "", 5, 36).still("judged(0, 4, 1111)", NONE).still("judged(0, 5, 11111)", 4);
    }

    private static void judgedAnotherFigure() {
        Run r = run("JUDGED: another figure").bay(DRY + "W10");
        for (int figure = 0; figure <= 9; figure++) {
            r.still("judged(0, 1, " + figure + ")", figure <= 2 ? NONE : 0).still("judged(0, 2, 1" + figure + ")", figure <= 2 ? NONE : 1);
        }
        // It is DROWNED ahead of the other figure.
        run("JUDGED: the first of both").bay("B9099999999" + "00" + "1" + "0" + "W10").still("judged(0, 2, 13)", 0).still("judged(0, 2, 3)", 1)
            .still("judged(0, 2, 31)", 0);
    }

    private static void judgedAsItIsNow() {
        // From CELL 4 at STEP 20, whichever way it HEADS.
        Run r = standing("JUDGED: as it is now", "", 4, 20).still("judged(0, 5, 11111)", NONE).still("judged(0, 6, 111110)", 5)
            .still("judged(0, 5, 22222)", NONE).still("judged(0, 8, 22220000)", NONE);
        r.does("head(0, 2)", 1).still("judged(0, 5, 11111)", NONE).still("judged(0, 6, 111110)", 5);
    }

    private static void judgedRefused() {
        Run r = run("judged: UNKNOWN is told ahead of BAD").bay(DRY + "W10");
        for (String walker : new String[] {"-1", "1", "5", "MIN", "MAX"}) {
            r.still("judged(" + walker + ", 1, 0)", UNKNOWN).still("judged(" + walker + ", 0, 0)", UNKNOWN)
                .still("judged(" + walker + ", 9, -1)", UNKNOWN).still("judged(" + walker + ", 1, 10)", UNKNOWN);
        }
        run("judged: UNKNOWN, nobody").still("judged(0, 1, 0)", UNKNOWN);
        // BAD is told, though it does not WALK.
        Fates.reached(run("judged: BAD for one that does not WALK")).still("judged(0, 0, 0)", BAD).still("judged(1, 1, 10)", BAD)
            .still("judged(3, 9, 0)", BAD);
    }

    // ---- promises 20 and 21

    private static void aheadSoonest() {
        Run r = run("AHEAD: that the soonest there can be").bay(DRY + "W10W20W30").still("ahead()", 9).still("aheadOf(0)", 0).still("aheadOf(1)", 4)
            .still("aheadOf(2)", 6);
        r.does("head(0, 1)", 0).times(5, "step()", 0).still("ahead()", 9).still("aheadOf(2)", 6);
        run("AHEAD of one").bay(DRY + "W20").still("ahead()", 5).still("aheadOf(0)", 0);
        run("AHEAD of five").bay(DRY + "W30W30W30W30W30").still("ahead()", 3).still("aheadOf(0)", 0).still("aheadOf(4)", 0);
    }

    private static void aheadAtTheEnds() {
        run("AHEAD at 40").bay("B3333333333" + "40" + "1" + "0" + "W30W30").still("ahead()", 40).still("aheadOf(0)", 37).still("aheadOf(1)", 37);
        run("AHEAD: not by 40").bay("B2222222222" + "40" + "1" + "0" + "W30").still("ahead()", NONE).still("aheadOf(0)", NONE);
        run("AHEAD: it begins at 0").bay("B0000000000" + "00" + "1" + "0" + "W33W33").still("ahead()", 4).still("aheadOf(0)", 0)
            .still("aheadOf(1)", 0);
    }

    private static void aheadLastBegin() {
        // Pace 3 waits till 15 and is over at 19; whoever begins at 0 .. 15 is over just then.
        run("the last STEP by which it is OVER just then").bay(TIDE + "W35").still("ahead()", 19).still("aheadOf(0)", 15)
            .still("gone(0, 0, 0, 1)", 19).still("gone(0, 0, 15, 1)", 19).still("gone(0, 0, 16, 1)", 20);
        run("the last STEP by which it is OVER just then").bay(TIDE + "W35W25").still("ahead()", 22).still("aheadOf(0)", 18).still("aheadOf(1)", 15);
    }

    private static void aheadNone() {
        run("AHEAD: NONE: one comes not").bay(TIDE + "W35W20").still("ahead()", NONE).still("aheadOf(0)", NONE).still("aheadOf(1)", NONE);
        // Each comes, but never at one and the same STEP.
        Run r = run("AHEAD: NONE: not at one STEP").bay("B9423221239" + "08" + "1" + "1" + "W21W12W30").still("ahead()", NONE);
        for (int walker = 0; walker <= 2; walker++) r.still("aheadOf(" + walker + ")", NONE);
        r.still("latest(0)", 6).still("latest(1)", 4).still("latest(2)", 6);
    }

    private static void aheadRefused() {
        run("ahead: LATE: there is nobody").still("ahead()", LATE).still("aheadOf(0)", UNKNOWN);
        Run r = run("ahead: LATE: there is nobody, in a bay").bay(DRY + "T11S2").still("ahead()", LATE).still("aheadOf(0)", UNKNOWN).bay(DRY + "W10")
            .still("ahead()", 9);
        for (String walker : new String[] {"-1", "1", "5", "MIN", "MAX"}) r.still("aheadOf(" + walker + ")", UNKNOWN);
        // UNKNOWN ahead of NONE.
        run("aheadOf: UNKNOWN").bay(TIDE + "W20").still("aheadOf(0)", NONE).still("aheadOf(1)", UNKNOWN).still("aheadOf(-1)", UNKNOWN);
        // As if all were on CELL 0, though nobody WALKS.
        Fates.reached(run("AHEAD: as if all WALKERS were on CELL 0")).still("ahead()", NONE).still("aheadOf(0)", NONE);
        run("AHEAD of one that is OVER").bay(DRY + "W30").does("head(0, 1)", 0).times(3, "step()", 0).still("ahead()", 3).still("aheadOf(0)", 0);
    }

    // ---- promise 22

    private static void savedAtTheEnds() {
        run("SAVED: nobody").still("saved()", 0).bay(DRY + "T11").still("saved()", 0);
        run("SAVED: all on the shore").bay("B0000000000" + "00" + "3" + "9" + "W10W10W10W10W10").still("saved()", 5).times(40, "step()", 0)
            .still("saved()", 5);
        Run r = run("SAVED: none").bay("B0000000000" + "00" + "1" + "0" + "W10W10W10W10W10");
        for (int walker = 0; walker <= 4; walker++) r.does("head(" + walker + ", 1)", 0);
        r.does("step()", 31).still("saved()", 0);
        Fates.reached(run("SAVED: who is OVER, UP, or WALKS on the shore")).still("saved()", 3);
    }

    /** At STEP 40 five WALKERS of PACE 1 are on CELL 1: on and back are safe for none. */
    private static Run fiveAt40(String sentence, String parts) {
        Run r = run(sentence).bay(DRY + "W10W10W10W10W10" + parts);
        for (int walker = 0; walker <= 4; walker++) r.does("head(" + walker + ", 1)", 0);
        r.does("step()", 0);
        for (int walker = 0; walker <= 4; walker++) r.does("head(" + walker + ", 0)", 1);
        return r.times(39, "step()", 0);
    }

    private static void savedByTowers() {
        fiveAt40("SAVED: no TOWER there", "T24").still("saved()", 0);
        fiveAt40("SAVED: no TOWER at all", "").still("saved()", 0);
        for (int room = 1; room <= 4; room++) {
            Run r = fiveAt40("SAVED: as many as it still holds: for " + room, "T1" + room).still("saved()", room);
            for (int up = 1; up <= room; up++) r.does("climb(" + (5 - up) + ")", up).still("saved()", room);
            r.still("climb(0)", OverSands.FULL).still("saved()", room);
        }
        // Two are there, four could go up.
        Run s = run("SAVED: no more than there are").bay(DRY + "W10W10W10" + "T14").does("head(0, 1)", 0).does("head(1, 1)", 0).does("step()", 0)
            .does("head(0, 0)", 1).does("head(1, 0)", 1).times(39, "step()", 0);
        s.still("saved()", 3).does("climb(0)", 1).still("saved()", 3);
        // Those for whom back is safe take no room.
        Run t = run("SAVED: who is safe takes no room").bay(DRY + "W10W10W10" + "T11");
        for (int walker = 0; walker <= 2; walker++) t.does("head(" + walker + ", 1)", 0);
        t.does("step()", 0).still("saved()", 3);
        // Two TOWERS, each for those on its own CELL: three on CELL 1, two on CELL 2.
        Run u = run("SAVED: two TOWERS").bay(DRY + "W10W10W10W20W20" + "T11T24");
        for (int walker = 0; walker <= 4; walker++) u.does("head(" + walker + ", 1)", 0);
        u.does("step()", 0);
        for (int walker = 0; walker <= 4; walker++) u.does("head(" + walker + ", 0)", 1);
        u.times(38, "step()", 0).still("saved()", 5).does("step()", 0).still("saved()", 3);
    }

    private static void savedOnlyWhoWalks() {
        String roomy = "B0000000000" + "02" + "1" + "0" + "W35W10W15W15W15" + "S1T14";
        Run r = Fates.reached(run("SAVED: who is DROWNED or STUCK lives not, where a TOWER has room"), roomy);
        r.still("saved()", 3).times(36, "step()", 0).still("saved()", 3);
    }

    private static void savedAt40() {
        standing("SAVED: back just by 40", "", 1, 39).still("saved()", 1);
        standing("SAVED: back no more by 40", "", 1, 40).still("saved()", 0);
        standing("SAVED: over just by 40", "", 8, 39).still("saved()", 1);
        standing("SAVED: over no more by 40", "", 8, 40).still("saved()", 0);
        standing("SAVED: neither by 40", "", 4, 37).still("saved()", 0);
        standing("SAVED: back just by 40", "", 4, 36).still("saved()", 1);
    }

    // ---- all of them, of one that is not WALKER 0

    /** WALKER 1 is slow and wades 2; WALKER 0, that stays on the shore, would come farther from everywhere. */
    private static Run slowOne(String sentence, int steps) {
        Run r = run(sentence).bay(TIDE + "W35W12").times(18, "step()", 0).does("head(1, 1)", 0).times(steps, "step()", 0);
        return r.where(1, steps, 0).asks("about(2)", 18 + steps);
    }

    private static void eachByItsOwnPaceAndWade() {
        slowOne("SHELLS by how deep it wades itself", 1).still("shells(1)", 3).still("safest(1, 0)", 2).still("cut(1)", 23);
        slowOne("SHELLS by its own PACE", 2).still("shells(1)", 1).still("safest(1, 0)", 2).still("safest(1, 1)", 1).still("saved()", 2);
        // On CELL 3 at 21, 1 deep: at 23 it is 3 deep, and it is on CELL 5, or on CELL 1.
        Run r = slowOne("on and back are safe for WALKER 0 from there, not for it", 3).still("safest(1, 0)", 0).still("safest(1, 1)", NONE);
        r.still("shells(1)", NONE).still("saved()", 1).still("cut(1)", 23).still("judged(1, 2, 11)", 1).still("judged(1, 2, 22)", 1);
        r.still("gone(1, 3, 21, 1)", NONE).still("gone(1, 3, 21, 2)", NONE).still("gone(0, 3, 21, 1)", 24).still("gone(0, 3, 21, 2)", 23);
        r.still("latest(0)", 22).still("latest(1)", NONE).still("ahead()", NONE);
    }

    private static final String[] KINDS = {"W12", "W35", "W10", "W23", "W31"};

    /** All of them HEAD on at 16, and so many STEPS go by; one alone is WALKER 0. */
    private static OverSands goingOn(String walkers, int steps) {
        OverSands x = Check.bayOf("B0110210120" + "20" + "1" + "0" + walkers + "S3S6");
        Check.steps(x, 16);
        for (int walker = 0; walker < walkers.length() / 3; walker++) x.head(walker, 1);
        Check.steps(x, steps);
        return x;
    }

    private static void eachAsIfItWereAlone() {
        for (int steps = 0; steps <= 12; steps++) {
            int saved = 0;
            for (int walker = 0; walker < KINDS.length; walker++) {
                OverSands all = goingOn(String.join("", KINDS), steps);
                OverSands one = goingOn(KINDS[walker], steps);
                alike("at " + (16 + steps) + " of " + KINDS[walker] + ": ", all, walker, one);
                saved += one.saved();
            }
            CHECK.due("SAVED, where no TOWER is: those that live alone, at " + (16 + steps), goingOn(String.join("", KINDS), steps).saved(), saved);
        }
    }

    /** Five that are unlike, none in another's way: of each what it would be alone. */
    private static void alike(String when, OverSands all, int walker, OverSands one) {
        for (int what = 0; what <= 4; what++) CHECK.due(when + "walker, " + what, all.walker(walker, what), one.walker(0, what));
        for (int what = 0; what <= 1; what++) CHECK.due(when + "safest, " + what, all.safest(walker, what), one.safest(0, what));
        CHECK.due(when + "shells", all.shells(walker), one.shells(0));
        CHECK.due(when + "cut", all.cut(walker), one.cut(0));
        CHECK.due(when + "latest", all.latest(walker), one.latest(0));
        for (int row : new int[] {11111111, 22222222, 0, 11122222, 10101010, 12121212}) {
            CHECK.due(when + "judged " + row, all.judged(walker, 8, row), one.judged(0, 8, row));
        }
        for (int cell = 0; cell <= 9; cell++) for (int step = 14; step <= 26; step += 3) for (int way = 1; way <= 2; way++) {
            CHECK.due(when + "gone from " + cell + " at " + step, all.gone(walker, cell, step, way), one.gone(0, cell, step, way));
        }
        for (int t = 14; t <= 26; t++) CHECK.due(when + "wind at " + t, all.wind(walker, t, 2, 3, true), one.wind(0, t, 2, 3, true));
        for (int seed = 1; seed <= 20; seed++) {
            all.seed(seed);
            one.seed(seed);
            CHECK.due(when + "fog by " + seed, all.fog(walker, 17, 9), one.fog(0, 17, 9));
            CHECK.due(when + "the seed behind " + seed, all.seed(0L), one.seed(0L));
        }
    }
}
