/** The edges of SLOTS, and of promises 28 and 29: keep, again; and of the 512 calls of an object. */
public final class EdgeSlotsTest {
    private static final int UNKNOWN = OverSands.UNKNOWN, LATE = OverSands.LATE, FULL = OverSands.FULL, BAD = OverSands.BAD;
    private static final String DRY = "B9999999999" + "00" + "1" + "0";
    private static final Check CHECK = new Check("EdgeSlotsTest");

    public static void main(String[] args) {
        slotsAre0To1();
        againLate();
        againRefusedTwice();
        keepTellsTheStep();
        keepIsNoAct();
        keepOverWhatWasKept();
        againHasNoActs();
        againThenAnActIsUndone();
        againAtEveryFate();
        againLeavesAllElse();
        againOfNobody();
        againAtTheLastStep();
        keptIsGoneWithTheBay();
        keptStaysWithAFault();
        by512Calls();
        CHECK.end();
    }

    private static Run run(String sentence) {
        return new Run(CHECK, sentence);
    }

    private static void slotsAre0To1() {
        Run r = run("SLOTS 0 .. 1; UNKNOWN").bay(DRY + "W10").does("step()", 0);
        String[] outside = {"-1", "2", "3", "MIN", "MAX"};
        for (String slot : outside) r.still("keep(" + slot + ")", UNKNOWN).still("again(" + slot + ")", UNKNOWN);
        r.does("keep(0)", 1).does("keep(1)", 1).does("step()", 0);
        for (String slot : outside) r.still("keep(" + slot + ")", UNKNOWN).still("again(" + slot + ")", UNKNOWN);
        r.does("again(0)", 1).does("again(1)", 1);
    }

    private static void againLate() {
        Run r = run("again: LATE: none were kept").bay(DRY + "W10").does("step()", 0).still("again(0)", LATE).still("again(1)", LATE);
        r.does("keep(1)", 1).still("again(0)", LATE).does("step()", 0).does("again(1)", 1).still("again(0)", LATE);
        run("again: LATE: none were kept, the other SLOT").bay(DRY + "W10").does("keep(0)", 0).still("again(1)", LATE).does("again(0)", 0)
            .still("again(1)", LATE);
    }

    private static void againRefusedTwice() {
        run("again: UNKNOWN is told ahead of LATE").still("again(2)", UNKNOWN).still("again(-1)", UNKNOWN).still("again(0)", LATE)
            .still("again(1)", LATE);
    }

    private static void keepTellsTheStep() {
        Run r = run("They are kept: THE STEP").bay(DRY + "W10").does("keep(0)", 0).times(39, "step()", 0).does("keep(1)", 39).does("step()", 0)
            .does("keep(1)", 40);
        r.does("again(0)", 0).does("again(1)", 40).still("step()", LATE).does("again(0)", 0).does("step()", 0);
    }

    private static void keepIsNoAct() {
        Run r = run("keep: ACTS stay").bay(DRY + "W10").times(17, "step()", 0).does("keep(0)", 17).still("about(12)", 16).does("undo()", 15)
            .does("keep(1)", 16).does("undo()", 14).asks("about(2)", 15);
        r.does("again(0)", 17).asks("about(2)", 17);
    }

    private static void keepOverWhatWasKept() {
        run("keep: over what was kept").bay(DRY + "W10").does("head(0, 1)", 0).does("step()", 0).does("keep(0)", 1).does("keep(1)", 1)
            .does("step()", 0).does("keep(0)", 2).does("again(1)", 1).where(0, 1, 0).does("again(0)", 2).where(0, 2, 0).does("again(0)", 2)
            .where(0, 2, 0);
    }

    private static void againHasNoActs() {
        Run r = run("no ACTS when one goes on").bay(DRY + "W10").does("keep(0)", 0).times(20, "step()", 0).still("about(12)", 16).does("again(0)", 0)
            .still("about(12)", 0).still("undo()", LATE);
        r.does("head(0, 1)", 0).still("about(12)", 1).does("undo()", 0).asks("walker(0, 3)", 0).still("undo()", LATE);
    }

    private static void againThenAnActIsUndone() {
        for (int acts = 1; acts <= 16; acts++) {
            Run r = run("the ACT behind again is undone: as it was kept").bay(DRY + "W10").does("head(0, 1)", 0).times(5, "step()", 0)
                .does("keep(1)", 5).times(acts, "step()", 0);
            r.does("again(1)", 5).does("step()", 0).does("head(0, 2)", 1).does("undo()", 1).asks("walker(0, 3)", 1).does("undo()", 0).where(0, 5, 0)
                .asks("about(2)", 5).asks("walker(0, 3)", 1).still("undo()", LATE);
        }
    }

    private static void againAtEveryFate() {
        Run r = Fates.reached(run("They are as they were kept: WALKERS")).does("keep(1)", 4).does("head(4, 1)", 0).times(2, "step()", 0)
            .does("undo()", 12).does("again(1)", 4);
        int[] cell = {9, 1, 1, 1, 0};
        int[] way = {1, 1, 0, 1, 0};
        int[] fate = {1, 2, 3, 4, 0};
        for (int walker = 0; walker <= 4; walker++) r.where(walker, cell[walker], fate[walker]).asks("walker(" + walker + ", 3)", way[walker]);
        r.asks("about(2)", 4).asks("cell(1, 4)", 1).asks("about(8)", 1).asks("about(9)", 2).asks("about(10)", 4).asks("about(11)", 8)
            .asks("about(7)", 16);
        // What is kept stays as it was, though one goes on from it.
        r.does("head(4, 1)", 0).does("step()", 0).does("again(1)", 4).asks("walker(4, 3)", 0).asks("walker(4, 2)", 0);
        // UP is kept, too: a TOWER is full again, or has room again.
        Run s = run("They are as they were kept: UP").bay(DRY + "W10W10" + "T11").does("head(0, 1)", 0).does("head(1, 1)", 0).does("step()", 0)
            .does("keep(0)", 1).does("climb(0)", 1).does("keep(1)", 1);
        s.does("again(0)", 1).does("climb(1)", 1).does("again(1)", 1).still("climb(1)", FULL).still("cell(1, 4)", 1);
    }

    private static void againLeavesAllElse() {
        Run r = run("SLOTS keep THE STEP, WALKERS: nothing else").bay(DRY + "W10").does("seed(3)", 0).does("keep(0)", 0).does("seed(4)", 3)
            .tell("B12").does("step()", 0).does("again(0)", 0);
        r.asks("about(13)", 3).asks("fault()", 3).does("seed(4)", 4).asks("about(0)", 1);
    }

    private static void againOfNobody() {
        run("keep and again of nobody").still("again(0)", LATE).does("keep(0)", 0).times(3, "step()", 0).does("keep(1)", 3).does("again(0)", 0)
            .asks("about(2)", 0).does("again(1)", 3).asks("about(2)", 3).still("undo()", LATE);
    }

    private static void againAtTheLastStep() {
        run("again at STEP 40").bay(DRY + "W10").does("keep(0)", 0).times(40, "step()", 0).still("step()", LATE).does("again(0)", 0)
            .times(40, "step()", 0).still("step()", LATE);
    }

    private static void keptIsGoneWithTheBay() {
        Run r = run("bay: what was kept is gone").bay(DRY + "W10W10").does("keep(0)", 0).does("keep(1)", 0).does("bay()", 20).still("again(0)", LATE)
            .still("again(1)", LATE).does("step()", 0);
        r.does("keep(1)", 1).still("again(0)", LATE).does("again(1)", 1);
    }

    private static void keptStaysWithAFault() {
        run("bay: LATE: what was kept is not gone").bay(DRY + "W10").does("step()", 0).does("keep(0)", 1).does("step()", 0).does("write(88)", 19)
            .still("bay()", LATE).does("again(0)", 1);
    }

    // ---- An object is used for at most 512 calls: till then all holds.

    private static void by512Calls() {
        OverSands writes = new OverSands();
        for (int call = 1; call <= 512; call++) CHECK.due("512 calls: write, call " + call, writes.write(66), call <= 56 ? call : FULL);
        OverSands heads = Check.bayOf(DRY + "W10");
        int used = 1 + 18 + 1;
        for (int call = used + 1; call < 512; call++) {
            int turn = call - used;
            CHECK.due("512 calls: head, call " + call, heads.head(0, turn % 2 == 1 ? 1 : 2), turn == 1 ? 0 : turn % 2 == 1 ? 2 : 1);
        }
        CHECK.due("the 512th call", heads.undo(), 15);
        OverSands turns = new OverSands();
        for (int call = 1; call <= 512; call++) CHECK.due("512 calls: step and undo, call " + call, call % 2 == 1 ? turns.step() : turns.undo(), 0);
        OverSands kept = new OverSands();
        for (int call = 1; call <= 512; call++) {
            long got = call % 4 == 1 ? kept.keep(0) : call % 4 == 2 ? kept.step() : call % 4 == 3 ? kept.again(0) : kept.again(1);
            CHECK.due("512 calls: keep, step, again, call " + call, got, call % 4 == 0 ? LATE : 0);
        }
        OverSands seeds = new OverSands();
        for (int call = 1; call <= 512; call++) CHECK.due("512 calls: seed, call " + call, seeds.seed(call * 1000003L), (call - 1) * 1000003L);
        OverSands refused = new OverSands();
        for (int call = 1; call <= 511; call++) CHECK.due("512 calls: refused, call " + call, refused.write(256), BAD);
        CHECK.due("the 512th call", refused.about(13), 0);
    }
}
