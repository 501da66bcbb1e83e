/** Promises 10 to 13: head, step, climb, undo. */
public final class ActsTest {
    private static final Check CHECK = new Check("ActsTest");

    public static void main(String[] args) {
        head();
        headRefused();
        stepByPace();
        stepAgainstWater();
        stepOnTheShores();
        stepDrownsAndSticks();
        stepsToTheLast();
        climb();
        climbRefused();
        undo();
        undoOfSixteen();
        CHECK.end();
    }

    private static void due(String call, long got, long want) {
        CHECK.due(call, got, want);
    }

    private static void where(OverSands x, int walker, int cell, int fate) {
        due("walker(" + walker + ", 2) at " + x.about(2), x.walker(walker, 2), cell);
        due("walker(" + walker + ", 4) at " + x.about(2), x.walker(walker, 4), fate);
    }

    private static void head() {
        OverSands x = Check.bayOf("B0000000000" + "20" + "1" + "0" + "W35W35");
        due("head(0, 1)", x.head(0, 1), 0);
        due("head(0, 2)", x.head(0, 2), 1);
        due("head(0, 0)", x.head(0, 0), 2);
        due("head(0, 2)", x.head(0, 2), 0);
        due("head(0, 1)", x.head(0, 1), 2);
        due("walker(0, 3)", x.walker(0, 3), 1);
        due("walker(1, 3)", x.walker(1, 3), 0);
        due("about(12)", x.about(12), 5);
        due("about(2): no STEP goes by", x.about(2), 0);
    }

    private static void headRefused() {
        OverSands x = Check.bayOf("B0000000000" + "00" + "1" + "0" + "W35W30" + "T31");
        String before = Check.seen(x);
        due("head(2, 1)", x.head(2, 1), OverSands.UNKNOWN);
        due("head(-1, 1)", x.head(-1, 1), OverSands.UNKNOWN);
        due("head(2, 3): UNKNOWN is told first", x.head(2, 3), OverSands.UNKNOWN);
        due("head(0, 3)", x.head(0, 3), OverSands.BAD);
        due("head(0, -1)", x.head(0, -1), OverSands.BAD);
        due("head(0, 0): it STANDS", x.head(0, 0), OverSands.LATE);
        CHECK.holds("a refused head changes nothing", before.equals(Check.seen(x)));
        x.head(0, 1);
        due("head(0, 1): it HEADS so", x.head(0, 1), OverSands.LATE);
        x.head(1, 1);
        due("step(): 1 is drowned on CELL 3", x.step(), 2);
        due("head(1, 2): it does not WALK", x.head(1, 2), OverSands.LATE);
        due("head(1, 3): BAD is told first", x.head(1, 3), OverSands.BAD);
        x.climb(0);
        due("head(0, 2): it is UP", x.head(0, 2), OverSands.LATE);
    }

    private static void stepByPace() {
        // Always bare: all HEIGHTS are 9.
        OverSands x = Check.bayOf("B9999999999" + "00" + "1" + "0" + "W10W20W30W30");
        for (int walker = 0; walker < 3; walker++) x.head(walker, 1);
        for (int step = 1; step <= 9; step++) {
            due("step()", x.step(), 0);
            for (int walker = 0; walker < 3; walker++) {
                int cell = Math.min(9, step * (walker + 1));
                where(x, walker, cell, cell == 9 ? 1 : 0);
            }
            where(x, 3, 0, 0);
        }
        due("about(8)", x.about(8), 7);
        due("walker(2, 3): it HEADS on still", x.walker(2, 3), 1);
    }

    private static void stepAgainstWater() {
        // WATER is 3 at 0, 2 at 1, 1 at 2, 0 at 3: deep by the heights 1, 0, 0, 2.
        OverSands x = Check.bayOf("B9100299999" + "03" + "1" + "0" + "W32W31W30W22");
        for (int walker = 0; walker < 4; walker++) x.head(walker, 1);
        due("step()", x.step(), 0);
        // CELL 1 is 2 deep, CELL 2 is 3 deep at 0.
        where(x, 0, 1, 0);
        where(x, 1, 0, 0);
        where(x, 2, 0, 0);
        where(x, 3, 1, 0);
        due("step()", x.step(), 0);
        // At 1 CELL 1 is 1 deep: 0 goes half of 3, up (2), 3 half of 2 (1); 1 goes to CELL 1, for CELL 2 is 2 deep.
        where(x, 0, 3, 0);
        where(x, 1, 1, 0);
        where(x, 2, 0, 0);
        where(x, 3, 2, 0);
        due("step()", x.step(), 0);
        // At 2 CELL 3 is 1 deep (0 goes 2), CELL 1 is bare (1 goes 3), CELL 2 is 1 deep (3 goes 1), 2 goes to CELL 1.
        where(x, 0, 5, 0);
        where(x, 1, 4, 0);
        where(x, 2, 1, 0);
        where(x, 3, 3, 0);
    }

    private static void stepOnTheShores() {
        OverSands x = Check.bayOf("B9999999999" + "00" + "1" + "0" + "W30W20");
        x.head(0, 2);
        x.head(1, 1);
        x.step();
        where(x, 0, 0, 0);
        where(x, 1, 2, 0);
        x.head(1, 2);
        Check.steps(x, 2);
        where(x, 1, 0, 0);
        due("about(7): on the near shore one WALKS", x.about(7), 3);
        // HEIGHT 0 and WATER 9 everywhere: on the shores nothing is deep, nobody is drowned there.
        OverSands y = Check.bayOf("B0000000000" + "00" + "1" + "9" + "W30");
        y.head(0, 1);
        for (int k = 0; k < 40; k++) due("step()", y.step(), 0);
        where(y, 0, 0, 0);
    }

    private static void stepDrownsAndSticks() {
        // WATER is 0 at 2, and 1 more with each step.
        OverSands x = Check.bayOf("B0000000000" + "02" + "1" + "0" + "W10W11W12W15W15" + "S1S2");
        Check.steps(x, 2);
        for (int walker = 0; walker < 5; walker++) x.head(walker, 1);
        due("step(): 1 deep at 3", x.step(), 1);
        where(x, 0, 1, 2);
        where(x, 1, 1, 0);
        x.head(3, 0);
        x.head(4, 2);
        due("step(): 2 deep at 4; 3 stands on a soft cell", x.step(), 2 + 8);
        where(x, 1, 2, 2);
        where(x, 2, 2, 0);
        where(x, 3, 1, 3);
        where(x, 4, 0, 0);
        due("step(): 3 deep at 5; DROWNED, though CELL 2 is soft", x.step(), 4);
        where(x, 2, 3, 2);
        Check.steps(x, 5);
        due("about(9): who is STUCK is not DROWNED later", x.about(9), 7);
        due("about(10)", x.about(10), 8);
        // Not gone at all, on a soft cell that is too deep: DROWNED; that is not too deep: STUCK.
        OverSands z = Check.bayOf("B0940000000" + "03" + "3" + "0" + "W21" + "S2");
        Check.steps(z, 3);
        z.head(0, 1);
        z.step();
        where(z, 0, 2, 0);
        due("step(): CELL 3 is 3 deep at 4, so it does not go; CELL 2 is 2 deep at 5", z.step(), 1);
        where(z, 0, 2, 2);
        OverSands w = Check.bayOf("B0990000000" + "03" + "3" + "0" + "W21" + "S2");
        Check.steps(w, 3);
        w.head(0, 1);
        w.step();
        due("step(): it heads on but can not go: STUCK", w.step(), 1);
        where(w, 0, 2, 3);
    }

    private static void stepsToTheLast() {
        OverSands x = Check.bayOf("B0000000000" + "00" + "1" + "0" + "W11");
        for (int k = 1; k <= 40; k++) {
            due("step()", x.step(), 0);
            due("about(2)", x.about(2), k);
        }
        String before = Check.seen(x);
        due("step() at 40", x.step(), OverSands.LATE);
        CHECK.holds("a refused step changes nothing", before.equals(Check.seen(x)));
        due("head(0, 1) at 40", x.head(0, 1), 0);
    }

    private static void climb() {
        OverSands x = Check.bayOf("B9999999999" + "00" + "1" + "0" + "W20W20W20W20" + "T22T83");
        for (int walker = 0; walker < 4; walker++) x.head(walker, 1);
        x.step();
        due("climb(3)", x.climb(3), 1);
        due("climb(1)", x.climb(1), 2);
        due("about(11)", x.about(11), 10);
        due("about(7)", x.about(7), 5);
        due("climb(0)", x.climb(0), OverSands.FULL);
        due("climb(1): LATE is told first", x.climb(1), OverSands.LATE);
        Check.steps(x, 3);
        due("walker(3, 2): UP there still", x.walker(3, 2), 2);
        due("climb(0) on CELL 8", x.climb(0), 1);
        due("climb(2) on CELL 8", x.climb(2), 2);
        due("cell(8, 4)", x.cell(8, 4), 2);
        due("cell(2, 4)", x.cell(2, 4), 2);
    }

    private static void climbRefused() {
        OverSands x = Check.bayOf("B0000000000" + "01" + "1" + "0" + "W31W30W30" + "T31");
        x.step();
        for (int walker = 0; walker < 3; walker++) x.head(walker, 1);
        String before = Check.seen(x);
        due("climb(3)", x.climb(3), OverSands.UNKNOWN);
        due("climb(-1)", x.climb(-1), OverSands.UNKNOWN);
        due("climb(0) on the shore", x.climb(0), OverSands.LATE);
        CHECK.holds("a refused climb changes nothing", before.equals(Check.seen(x)));
        due("step()", x.step(), 6);
        due("climb(1): it is DROWNED", x.climb(1), OverSands.LATE);
        due("climb(0)", x.climb(0), 1);
        due("climb(2): DROWNED is told ahead of FULL", x.climb(2), OverSands.LATE);
    }

    private static final String UNDONE = "B9999999999" + "00" + "1" + "0" + "W30W20" + "T31";

    /** A new object with so many acts: of each kind one, and more. */
    private static OverSands afterActs(int acts) {
        OverSands x = Check.bayOf(UNDONE);
        if (acts > 0) x.head(0, 1);
        if (acts > 1) x.step();
        if (acts > 2) x.climb(0);
        if (acts > 3) x.head(1, 1);
        if (acts > 4) x.step();
        return x;
    }

    private static void undo() {
        for (int left = 4; left >= 0; left--) {
            OverSands x = afterActs(5);
            for (int k = 4; k >= left; k--) due("undo()", x.undo(), k);
            CHECK.holds("it is as ahead of ACT " + left, Check.seen(afterActs(left)).equals(Check.seen(x)));
        }
        OverSands x = afterActs(5);
        for (int k = 4; k >= 0; k--) x.undo();
        due("undo() of none", x.undo(), OverSands.LATE);
        CHECK.holds("a refused undo changes nothing", Check.seen(afterActs(0)).equals(Check.seen(x)));
        x.head(0, 1);
        x.step();
        due("undo()", x.undo(), 1);
        due("step() goes by again", x.step(), 0);
        due("walker(0, 2)", x.walker(0, 2), 3);
        due("about(12)", x.about(12), 2);
        // THE SEED and what is kept are no ACTS.
        OverSands y = Check.bayOf("B9999999999" + "00" + "1" + "0" + "W30");
        y.step();
        y.seed(5L);
        y.keep(0);
        due("undo()", y.undo(), 0);
        due("seed(0)", y.seed(0L), 5L);
        due("again(0)", y.again(0), 1);
    }

    private static void undoOfSixteen() {
        OverSands x = Check.bayOf("B9999999999" + "00" + "1" + "0" + "W30");
        for (int k = 1; k <= 16; k++) {
            x.step();
            due("about(12)", x.about(12), k);
        }
        x.step();
        due("about(12): one is forgotten", x.about(12), 16);
        x.head(0, 1);
        due("about(12): two are forgotten", x.about(12), 16);
        for (int left = 15; left >= 0; left--) due("undo()", x.undo(), left);
        due("about(2)", x.about(2), 2);
        due("undo()", x.undo(), OverSands.LATE);
        for (int k = 0; k < 5; k++) x.step();
        for (int left = 4; left >= 2; left--) due("undo()", x.undo(), left);
        for (int k = 3; k <= 16; k++) x.head(0, k % 2 == 1 ? 1 : 2);
        due("about(12)", x.about(12), 16);
        for (int left = 15; left >= 0; left--) due("undo()", x.undo(), left);
        due("about(2)", x.about(2), 2);
        due("walker(0, 3)", x.walker(0, 3), 0);
    }
}
