/** Promises 28 and 29: keep and again. */
public final class SlotsTest {
    private static final Check CHECK = new Check("SlotsTest");

    public static void main(String[] args) {
        keepAndAgain();
        refused();
        CHECK.end();
    }

    private static void due(String call, long got, long want) {
        CHECK.due(call, got, want);
    }

    private static void keepAndAgain() {
        OverSands x = Check.bayOf("B9999999999" + "00" + "1" + "0" + "W30W20W11" + "T62");
        x.head(0, 1);
        x.head(1, 1);
        Check.steps(x, 2);
        x.climb(0);
        due("keep(0)", x.keep(0), 2);
        due("about(12): ACTS stay when one keeps", x.about(12), 5);
        x.head(2, 2);
        Check.steps(x, 3);
        due("about(8)", x.about(8), 2);
        due("keep(1)", x.keep(1), 5);
        x.seed(12L);
        due("again(0)", x.again(0), 2);
        due("about(2)", x.about(2), 2);
        due("about(12): no ACTS", x.about(12), 0);
        due("undo()", x.undo(), OverSands.LATE);
        due("walker(0, 4): UP", x.walker(0, 4), 4);
        due("cell(6, 4)", x.cell(6, 4), 1);
        due("walker(1, 2)", x.walker(1, 2), 4);
        due("walker(1, 4)", x.walker(1, 4), 0);
        due("walker(1, 3)", x.walker(1, 3), 1);
        due("walker(2, 3)", x.walker(2, 3), 0);
        due("THE SEED stays", x.seed(12L), 12L);
        x.step();
        due("again(1)", x.again(1), 5);
        due("walker(2, 3)", x.walker(2, 3), 2);
        due("about(8)", x.about(8), 2);
        due("again(0): it is kept still", x.again(0), 2);
        due("keep(1) over what was kept", x.keep(1), 2);
        x.step();
        due("again(1)", x.again(1), 2);
        due("walker(1, 4)", x.walker(1, 4), 0);
    }

    private static void refused() {
        OverSands x = Check.bayOf("B9999999999" + "00" + "1" + "0" + "W30");
        x.step();
        String before = Check.seen(x);
        due("keep(-1)", x.keep(-1), OverSands.UNKNOWN);
        due("keep(2)", x.keep(2), OverSands.UNKNOWN);
        due("again(-1)", x.again(-1), OverSands.UNKNOWN);
        due("again(2)", x.again(2), OverSands.UNKNOWN);
        due("again(0)", x.again(0), OverSands.LATE);
        due("again(1)", x.again(1), OverSands.LATE);
        CHECK.holds("what is refused changes nothing", before.equals(Check.seen(x)));
        due("keep(1)", x.keep(1), 1);
        due("again(0): the other one is kept", x.again(0), OverSands.LATE);
        due("about(12)", x.about(12), 1);
        OverSands y = new OverSands();
        due("keep(0) of nobody", y.keep(0), 0);
        y.step();
        due("again(0)", y.again(0), 0);
        due("about(2)", y.about(2), 0);
    }
}
