/** The edges of CELLS, STEPS, WATER and DEEP, and of promises 6 to 9: about, cell, walker, deep. */
public final class EdgeTideTest {
    private static final int BAD = OverSands.BAD, UNKNOWN = OverSands.UNKNOWN;
    private static final String DRY = "B9999999999" + "00" + "1" + "0";
    private static final String FLAT = "B0000000000";
    private static final Check CHECK = new Check("EdgeTideTest");

    public static void main(String[] args) {
        aboutIsAskedFor0To13();
        aboutOfTheLeast();
        aboutOfTheGreatest();
        aboutAllWalk();
        aboutAllAreOver();
        aboutAllAreDrowned();
        aboutAllAreStuck();
        aboutAllAreUp();
        aboutOfEachFate();
        aboutTheStepAndTheWater();
        cellsAre0To9();
        cellIsAskedFor0To4();
        cellOfTheGreatest();
        cellRefusedTwice();
        walkersAreThoseThatWereTold();
        walkerIsAskedFor0To4();
        walkerOfTheGreatest();
        walkerRefusedTwice();
        deepForCells0To9();
        deepForSteps0To40();
        deepRefusedTwice();
        waterIs9AtMost();
        waterAtLowIsLeast();
        waterFallsAndComes();
        waterByRise();
        deepIs0AtLeast();
        nothingIsDeepOnTheShores();
        deepIsAskedForAnyStep();
        CHECK.end();
    }

    private static Run run(String sentence) {
        return new Run(CHECK, sentence);
    }

    // ---- promise 6

    private static void aboutIsAskedFor0To13() {
        Run r = run("about: what 0 .. 13; BAD").bay(FLAT + "07" + "2" + "1" + "W35W10" + "T31S2").does("step()", 0);
        int[] want = {2, 1, 1, 9, 7, 2, 1, 3, 0, 0, 0, 0, 1, 26};
        for (int what = 0; what <= 13; what++) r.still("about(" + what + ")", want[what]);
        for (String what : new String[] {"-1", "14", "15", "-2", "MIN", "MAX"}) r.still("about(" + what + ")", BAD);
    }

    private static void aboutOfTheLeast() {
        Run r = run("about, the least of each").bay(FLAT + "00" + "1" + "0").does("wipe()", 15);
        int[] want = {0, 0, 0, 0, 0, 1, 0, 0, 0, 0, 0, 0, 0, 0};
        for (int what = 0; what <= 13; what++) r.still("about(" + what + ")", want[what]);
    }

    private static void aboutOfTheGreatest() {
        Run r = run("about, the greatest of each").bay(FLAT + "40" + "3" + "9" + "W35W35W35W35W35" + "T84T74").tell("X".repeat(56))
            .times(40, "step()", 0);
        int[] want = {5, 2, 40, 9, 40, 3, 9, 31, 0, 0, 0, 0, 16, 56};
        for (int what = 0; what <= 13; what++) r.still("about(" + what + ")", want[what]);
    }

    private static Run five(String sentence, String head, String walkers, String parts, int way) {
        Run r = run(sentence).bay(head + walkers + parts);
        for (int walker = 0; walker <= 4; walker++) if (way != 0) r.does("head(" + walker + ", " + way + ")", 0);
        return r;
    }

    private static void fates(Run r, int walks, int over, int drowned, int stuck, int up) {
        r.still("about(7)", walks).still("about(8)", over).still("about(9)", drowned).still("about(10)", stuck).still("about(11)", up);
    }

    private static void aboutAllWalk() {
        fates(five("who WALKS (7: bits): all", DRY, "W10W10W10W10W10", "", 0), 31, 0, 0, 0, 0);
        for (int n = 0; n <= 5; n++) run("who WALKS: bits of those there are").bay(DRY + "W10".repeat(n)).still("about(7)", (1 << n) - 1);
    }

    private static void aboutAllAreOver() {
        fates(five("OVER (8): all", DRY, "W30W30W30W30W30", "", 1).times(3, "step()", 0), 0, 31, 0, 0, 0);
    }

    private static void aboutAllAreDrowned() {
        fates(five("DROWNED (9): all", FLAT + "00" + "1" + "0", "W10W20W30W10W20", "", 1).does("step()", 31), 0, 0, 31, 0, 0);
    }

    private static void aboutAllAreStuck() {
        Run r = five("STUCK (10): all", DRY, "W10W20W30W10W20", "S1S2S3", 1).does("step()", 0);
        for (int walker = 0; walker <= 4; walker++) r.does("head(" + walker + ", 0)", 1);
        fates(r.does("step()", 31), 0, 0, 0, 31, 0);
    }

    private static void aboutAllAreUp() {
        Run r = five("UP (11): all", DRY, "W10W10W10W10W20", "T14T21", 1).does("step()", 0);
        for (int walker = 0; walker <= 3; walker++) r.does("climb(" + walker + ")", walker + 1);
        fates(r.does("climb(4)", 1), 0, 0, 0, 0, 31);
        r.asks("cell(1, 4)", 4).asks("cell(2, 4)", 1);
    }

    private static void aboutOfEachFate() {
        fates(Fates.reached(run("who WALKS, OVER, DROWNED, STUCK, UP: bits")), 16, 1, 2, 4, 8);
    }

    private static void aboutTheStepAndTheWater() {
        Run r = run("THE STEP (2), WATER now (3)").bay(FLAT + "12" + "1" + "1");
        for (int step = 0; step <= 40; step++) {
            r.asks("about(2)", step).asks("about(3)", Math.min(9, 1 + Math.abs(step - 12)));
            if (step < 40) r.does("step()", 0);
        }
        r.still("step()", OverSands.LATE).asks("about(2)", 40);
    }

    // ---- promise 7

    private static void cellsAre0To9() {
        Run r = run("CELLS are 0 .. 9; UNKNOWN").bay("B1234567890" + "09" + "1" + "0" + "W10" + "S1S8T11T84");
        for (int cell = 0; cell <= 9; cell++) r.still("cell(" + cell + ", 0)", (cell + 1) % 10);
        for (String cell : new String[] {"-1", "10", "11", "-10", "MIN", "MAX"}) {
            for (int what = 0; what <= 4; what++) r.asks("cell(" + cell + ", " + what + ")", UNKNOWN);
            r.still("cell(" + cell + ", 0)", UNKNOWN);
        }
    }

    private static void cellIsAskedFor0To4() {
        Run r = run("cell: what 0 .. 4; BAD").bay("B1234567890" + "09" + "1" + "0" + "W10" + "S3T32");
        int[] want = {4, 5, 1, 2, 0};
        for (int what = 0; what <= 4; what++) r.still("cell(3, " + what + ")", want[what]);
        for (String what : new String[] {"-1", "5", "6", "MIN", "MAX"}) {
            r.still("cell(0, " + what + ")", BAD).still("cell(3, " + what + ")", BAD).still("cell(9, " + what + ")", BAD);
        }
    }

    private static void cellOfTheGreatest() {
        Run r = five("HEIGHT, DEEP, SOFT, TOWER, UP: the least and the greatest", "B0000000000" + "39" + "3" + "9", "W15W15W15W15W15", "T14S1", 0);
        r.asks("cell(1, 0)", 0).asks("cell(1, 1)", 9).asks("cell(1, 2)", 1).asks("cell(1, 3)", 4).asks("cell(1, 4)", 0);
        r.asks("cell(2, 2)", 0).asks("cell(2, 3)", 0).asks("cell(2, 4)", 0).asks("cell(8, 1)", 9).asks("cell(9, 1)", 0).asks("cell(0, 1)", 0);
        Run s = five("how many are UP there: 0 .. 4", DRY, "W10W10W10W10W10", "T14", 1).does("step()", 0);
        for (int up = 0; up < 4; up++) s.still("cell(1, 4)", up).does("climb(" + up + ")", up + 1);
        s.still("cell(1, 4)", 4).still("climb(4)", OverSands.FULL).asks("cell(1, 4)", 4).asks("cell(1, 3)", 4).asks("cell(1, 0)", 9)
            .asks("cell(1, 1)", 0);
        // Walkers that are there, but are not UP, do not count.
        Fates.reached(run("how many are UP there, of four that are there")).still("cell(1, 4)", 1).still("cell(0, 4)", 0).still("cell(9, 4)", 0);
    }

    private static void cellRefusedTwice() {
        Run r = run("cell: UNKNOWN is told ahead of BAD").bay(DRY + "W10");
        for (String cell : new String[] {"-1", "10", "MIN", "MAX"}) for (String what : new String[] {"-1", "5", "MAX"}) {
            r.still("cell(" + cell + ", " + what + ")", UNKNOWN);
        }
    }

    // ---- promise 8

    private static void walkersAreThoseThatWereTold() {
        for (int n = 0; n <= 5; n++) {
            Run r = run("walker: UNKNOWN, there is no such WALKER, of " + n).bay(DRY + "W21".repeat(n));
            for (int walker = 0; walker <= 5; walker++) r.still("walker(" + walker + ", 0)", walker < n ? 2 : UNKNOWN);
            for (String walker : new String[] {"-1", "6", "MIN", "MAX"}) r.still("walker(" + walker + ", 0)", UNKNOWN);
        }
        // Five, then fewer: who was there before is no more.
        run("walker: UNKNOWN in a bay made anew").bay(DRY + "W21".repeat(5)).bay(DRY + "W32").still("walker(0, 0)", 3).still("walker(1, 0)", UNKNOWN)
            .still("walker(4, 0)", UNKNOWN);
    }

    private static void walkerIsAskedFor0To4() {
        Run r = run("walker: what 0 .. 4; BAD").bay(DRY + "W24W10").does("head(0, 1)", 0).does("step()", 0);
        int[] want = {2, 4, 2, 1, 0};
        for (int what = 0; what <= 4; what++) r.still("walker(0, " + what + ")", want[what]);
        for (String what : new String[] {"-1", "5", "6", "MIN", "MAX"}) r.still("walker(0, " + what + ")", BAD).still("walker(1, " + what + ")", BAD);
    }

    private static void walkerOfTheGreatest() {
        Run r = run("its CELL 0 .. 9; 1 on, 2 back, 0 STANDS").bay(DRY + "W35W10").asks("walker(0, 2)", 0).asks("walker(0, 3)", 0);
        r.does("head(0, 1)", 0).asks("walker(0, 3)", 1).does("head(1, 2)", 0).asks("walker(1, 3)", 2).times(3, "step()", 0);
        r.asks("walker(0, 0)", 3).asks("walker(0, 1)", 5).where(0, 9, 1).asks("walker(1, 0)", 1).asks("walker(1, 1)", 0).where(1, 0, 0);
        Run s = Fates.reached(run("0 WALKS, 1 OVER, 2 DROWNED, 3 STUCK, 4 UP"));
        int[] fate = {1, 2, 3, 4, 0};
        for (int walker = 0; walker <= 4; walker++) s.still("walker(" + walker + ", 4)", fate[walker]);
    }

    private static void walkerRefusedTwice() {
        Run r = run("walker: UNKNOWN is told ahead of BAD").bay(DRY + "W10");
        for (String walker : new String[] {"-1", "1", "5", "MIN", "MAX"}) for (String what : new String[] {"-1", "5", "MIN"}) {
            r.still("walker(" + walker + ", " + what + ")", UNKNOWN);
        }
    }

    // ---- promise 9

    private static void deepForCells0To9() {
        Run r = run("deep: UNKNOWN").bay("B0123456789" + "00" + "1" + "9" + "W10");
        for (int cell = 0; cell <= 9; cell++) r.still("deep(" + cell + ", 0)", cell == 0 ? 0 : 9 - cell);
        for (String cell : new String[] {"-1", "10", "11", "MIN", "MAX"}) {
            r.still("deep(" + cell + ", 0)", UNKNOWN).still("deep(" + cell + ", 40)", UNKNOWN);
        }
    }

    private static void deepForSteps0To40() {
        Run r = run("deep: BAD: step (0 .. 40)").bay(FLAT + "20" + "1" + "0" + "W10");
        r.still("deep(5, 0)", 9).still("deep(5, 40)", 9).still("deep(5, 39)", 9).still("deep(5, 1)", 9);
        for (String step : new String[] {"-1", "41", "42", "MIN", "MAX"}) {
            r.still("deep(5, " + step + ")", BAD).still("deep(0, " + step + ")", BAD).still("deep(9, " + step + ")", BAD);
        }
    }

    private static void deepRefusedTwice() {
        Run r = run("deep: UNKNOWN is told ahead of BAD").bay(DRY + "W10");
        for (String cell : new String[] {"-1", "10", "MIN", "MAX"}) for (String step : new String[] {"-1", "41", "MIN"}) {
            r.still("deep(" + cell + ", " + step + ")", UNKNOWN);
        }
    }

    private static void water(String sentence, String tide, int[] steps, int[] want) {
        Run r = run(sentence + " (" + tide + ")").bay(FLAT + tide);
        for (int k = 0; k < steps.length; k++) r.asks("deep(4, " + steps[k] + ")", want[k]);
    }

    private static void waterIs9AtMost() {
        water("WATER is 9 at most", "20" + "1" + "0", new int[] {10, 11, 12, 28, 29, 30}, new int[] {9, 9, 8, 8, 9, 9});
        water("WATER is 9 at most", "20" + "2" + "0", new int[] {15, 16, 24, 25}, new int[] {9, 8, 8, 9});
        water("WATER is 9 at most", "20" + "3" + "0", new int[] {16, 17, 18, 22, 23, 24}, new int[] {9, 9, 6, 6, 9, 9});
        water("WATER is 9 at most", "20" + "3" + "1", new int[] {17, 18, 22, 23}, new int[] {9, 7, 7, 9});
        water("WATER is 9 at most", "20" + "1" + "8", new int[] {18, 19, 20, 21, 22}, new int[] {9, 9, 8, 9, 9});
        water("WATER is 9 at most", "20" + "1" + "9", new int[] {0, 19, 20, 21, 40}, new int[] {9, 9, 9, 9, 9});
        water("WATER is 9 at most", "00" + "3" + "9", new int[] {0, 1, 40}, new int[] {9, 9, 9});
        water("WATER is 9 at most", "40" + "3" + "9", new int[] {0, 39, 40}, new int[] {9, 9, 9});
    }

    private static void waterAtLowIsLeast() {
        for (int low = 0; low <= 40; low++) {
            for (int least = 0; least <= 9; least += 3) {
                OverSands x = Check.bayOf(FLAT + low / 10 + low % 10 + "2" + least);
                CHECK.due("WATER is LEAST at LOW " + low, x.deep(8, low), least);
                if (low > 0) CHECK.due("WATER is more one STEP ahead of LOW " + low, x.deep(8, low - 1), Math.min(9, least + 2));
                if (low < 40) CHECK.due("WATER is more one STEP behind LOW " + low, x.deep(8, low + 1), Math.min(9, least + 2));
            }
        }
    }

    private static void waterFallsAndComes() {
        water("a tide that comes: LOW at the first STEP", "00" + "1" + "0", new int[] {0, 1, 2, 8, 9, 10, 40}, new int[] {0, 1, 2, 8, 9, 9, 9});
        water("a tide that falls: LOW at the last STEP", "40" + "1" + "0", new int[] {40, 39, 38, 32, 31, 30, 0}, new int[] {0, 1, 2, 8, 9, 9, 9});
    }

    private static void waterByRise() {
        for (int rise = 1; rise <= 3; rise++) {
            int[] steps = {18, 19, 20, 21, 22};
            water("RISE times as many STEPS as that is from LOW", "20" + rise + "0", steps, new int[] {2 * rise, rise, 0, rise, 2 * rise});
            water("LEAST and RISE times as many", "20" + rise + "2", steps, new int[] {2 + 2 * rise, 2 + rise, 2, 2 + rise, 2 + 2 * rise});
        }
    }

    private static void deepIs0AtLeast() {
        // WATER is 4 at 20, 5 at 21: by HEIGHTS 1 .. 8 that is 3 2 1 0 0 0 0 0, then 4 3 2 1 0 0 0 0.
        Run r = run("how much WATER is more than its HEIGHT (0 at least)").bay("B0123456789" + "20" + "1" + "4");
        int[] then = {0, 3, 2, 1, 0, 0, 0, 0, 0, 0};
        int[] later = {0, 4, 3, 2, 1, 0, 0, 0, 0, 0};
        for (int cell = 0; cell <= 9; cell++) r.asks("deep(" + cell + ", 20)", then[cell]).asks("deep(" + cell + ", 21)", later[cell]);
        r.times(20, "step()", 0);
        for (int cell = 0; cell <= 9; cell++) r.asks("cell(" + cell + ", 1)", then[cell]);
        r.does("step()", 0);
        for (int cell = 0; cell <= 9; cell++) r.asks("cell(" + cell + ", 1)", later[cell]);
    }

    private static void nothingIsDeepOnTheShores() {
        Run r = run("on the shores (CELLS 0, 9) nothing is deep").bay(FLAT + "00" + "3" + "9");
        r.still("deep(0, 0)", 0).still("deep(9, 0)", 0).still("deep(0, 40)", 0).still("deep(9, 40)", 0).still("cell(0, 1)", 0).still("cell(9, 1)", 0);
        r.still("deep(1, 0)", 9).still("deep(8, 0)", 9).still("cell(1, 1)", 9).still("cell(8, 1)", 9);
    }

    private static void deepIsAskedForAnyStep() {
        Run r = run("how DEEP a CELL is at a STEP, whatever THE STEP is").bay(FLAT + "05" + "1" + "0").times(40, "step()", 0);
        r.still("deep(3, 5)", 0).still("deep(3, 0)", 5).still("deep(3, 7)", 2).still("cell(3, 1)", 9);
    }
}
