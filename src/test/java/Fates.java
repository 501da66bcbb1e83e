/** A moment that has one of each fate: at STEP 4 WALKER 0 is OVER, 1 DROWNED, 2 STUCK, 3 UP, 4 WALKS. */
final class Fates {
    /** One, two and three are on CELL 1, where the TOWER is full; four is on CELL 0. */
    static final String BAY = "B0000000000" + "02" + "1" + "0" + "W35W10W15W15W15" + "S1T11";

    private Fates() {
    }

    static Run reached(Run run, String bay) {
        run.bay(bay).does("head(0, 1)", 0).does("step()", 0).does("step()", 0);
        for (int walker = 1; walker <= 3; walker++) run.does("head(" + walker + ", 1)", 0);
        return run.does("step()", 2).does("head(2, 0)", 1).does("climb(3)", 1).does("step()", 4);
    }

    static Run reached(Run run) {
        return reached(run, BAY);
    }
}
