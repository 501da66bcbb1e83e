/** Every refusal, alone and with others, in moments of many kinds: what is told, and that nothing has changed. */
public final class EdgeRefusalsTest {
    private static final String LONG_TEXT = "B0123456789" + "40" + "3" + "9" + "W10W21W32W13W35" + "T14T81" + "S1S2S3S4S5S6S7S8";
    private static final Check CHECK = new Check("EdgeRefusalsTest");

    /** Of a bay with five WALKERS, whatever the moment. */
    private static final String[] ALWAYS = {
        "write(-1) BAD", "write(256) BAD", "write(MIN) BAD", "write(MAX) BAD",
        "about(-1) BAD", "about(14) BAD",
        "cell(-1, 0) UNKNOWN", "cell(10, 0) UNKNOWN", "cell(0, -1) BAD", "cell(9, 5) BAD", "cell(-1, -1) UNKNOWN", "cell(10, 5) UNKNOWN",
        "walker(-1, 0) UNKNOWN", "walker(5, 0) UNKNOWN", "walker(0, -1) BAD", "walker(4, 5) BAD", "walker(-1, 5) UNKNOWN", "walker(5, -1) UNKNOWN",
        "deep(-1, 0) UNKNOWN", "deep(10, 0) UNKNOWN", "deep(0, -1) BAD", "deep(9, 41) BAD", "deep(-1, 41) UNKNOWN", "deep(10, -1) UNKNOWN",
        "head(-1, 1) UNKNOWN", "head(5, 1) UNKNOWN", "head(0, -1) BAD", "head(4, 3) BAD", "head(5, 3) UNKNOWN", "head(-1, -1) UNKNOWN",
        "climb(-1) UNKNOWN", "climb(5) UNKNOWN", "climb(MAX) UNKNOWN",
        "gone(-1, 0, 0, 1) UNKNOWN", "gone(5, 0, 0, 1) UNKNOWN", "gone(0, -1, 0, 1) UNKNOWN", "gone(4, 10, 0, 1) UNKNOWN", "gone(0, 0, -1, 1) BAD",
        "gone(0, 0, 41, 1) BAD", "gone(0, 0, 0, 0) BAD", "gone(0, 0, 0, 3) BAD", "gone(5, 10, 41, 3) UNKNOWN",
        "gone(0, 10, 41, 0) UNKNOWN", "gone(5, 0, -1, 1) UNKNOWN",
        "latest(-1) UNKNOWN", "latest(5) UNKNOWN",
        "safest(-1, 0) UNKNOWN", "safest(5, 1) UNKNOWN", "safest(0, -1) BAD", "safest(4, 2) BAD", "safest(5, 2) UNKNOWN",
        "shells(-1) UNKNOWN", "shells(5) UNKNOWN", "cut(-1) UNKNOWN", "cut(5) UNKNOWN",
        "judged(-1, 1, 0) UNKNOWN", "judged(5, 1, 0) UNKNOWN", "judged(0, 0, 0) BAD", "judged(4, 9, 0) BAD", "judged(0, 1, -1) BAD",
        "judged(0, 1, 10) BAD",
        "judged(0, 8, 100000000) BAD", "judged(5, 0, -1) UNKNOWN",
        "aheadOf(-1) UNKNOWN", "aheadOf(5) UNKNOWN",
        "wind(-1, 0, 0, 0, true) UNKNOWN", "wind(5, 0, 0, 0, true) UNKNOWN", "wind(0, -1, 0, 0, true) BAD", "wind(0, 41, 0, 0, true) BAD",
        "wind(0, 0, -1, 0, true) BAD",
        "wind(0, 0, 11, 0, true) BAD", "wind(0, 0, 0, -1, true) BAD", "wind(0, 0, 0, 11, true) BAD", "wind(0, 0, 5, 6, true) BAD",
        "wind(5, 41, 11, 11, true) UNKNOWN",
        "fog(-1, 0, 1) UNKNOWN", "fog(5, 0, 1) UNKNOWN", "fog(0, -1, 1) BAD", "fog(0, 41, 1) BAD", "fog(0, 0, 0) BAD", "fog(0, 0, 21) BAD",
        "fog(0, 21, 20) BAD", "fog(0, 40, 1) BAD",
        "fog(5, 41, 21) UNKNOWN",
        "keep(-1) UNKNOWN", "keep(2) UNKNOWN", "again(-1) UNKNOWN", "again(2) UNKNOWN",
    };

    /** Of any object, with or without a bay. */
    private static final String[] OF_NUMBERS = {
        "channel(0, 1, 0, 0, 0, true) BAD", "channel(9, 1, 0, 0, 0, true) BAD", "channel(1, 0, 0, 0, 0, true) BAD",
        "channel(1, 9, 0, 0, 0, true) BAD", "channel(1, 1, -1, 0, 0, true) BAD",
        "channel(1, 1, 11, 0, 0, true) BAD", "channel(1, 1, 0, -1, 0, true) BAD", "channel(1, 1, 0, 11, 0, true) BAD",
        "channel(1, 1, 5, 6, 0, true) BAD", "channel(1, 1, 0, 0, -1, true) BAD", "channel(1, 1, 0, 0, 6, true) BAD",
        "sticks(0, 5, 0, true) BAD", "sticks(7, 5, 0, true) BAD", "sticks(1, -1, 0, true) BAD", "sticks(1, 11, 0, true) BAD",
        "sticks(1, 5, -1, true) BAD", "sticks(1, 5, 10, true) BAD",
    };

    /** Where there is nobody. */
    private static final String[] OF_NOBODY = {
        "walker(0, 0) UNKNOWN", "walker(0, 5) UNKNOWN", "head(0, 1) UNKNOWN", "head(0, 3) UNKNOWN", "climb(0) UNKNOWN",
        "gone(0, 0, 0, 1) UNKNOWN", "gone(0, 0, 41, 3) UNKNOWN",
        "latest(0) UNKNOWN", "safest(0, 0) UNKNOWN", "safest(0, 2) UNKNOWN", "shells(0) UNKNOWN", "cut(0) UNKNOWN",
        "judged(0, 1, 0) UNKNOWN", "judged(0, 0, -1) UNKNOWN", "aheadOf(0) UNKNOWN",
        "wind(0, 0, 0, 0, true) UNKNOWN", "wind(0, 41, 0, 0, true) UNKNOWN", "fog(0, 0, 1) UNKNOWN", "fog(0, 41, 0) UNKNOWN", "ahead() LATE",
        "write(-1) BAD", "write(256) BAD", "about(-1) BAD", "about(14) BAD", "cell(10, 0) UNKNOWN", "cell(0, 5) BAD",
        "cell(-1, 5) UNKNOWN", "deep(10, 0) UNKNOWN", "deep(0, 41) BAD", "deep(-1, -1) UNKNOWN",
        "keep(-1) UNKNOWN", "keep(2) UNKNOWN", "again(-1) UNKNOWN", "again(2) UNKNOWN",
    };

    public static void main(String[] args) {
        inANewObject();
        inABayOfNobody();
        inABayThatHasJustBeenMade();
        amongEachFate();
        withAllFull();
        atTheLastStep();
        whenNobodyWalks();
        CHECK.end();
    }

    private static Run run(String sentence) {
        return new Run(CHECK, sentence);
    }

    private static int due(String name) {
        switch (name) {
            case "UNKNOWN": return -1;
            case "BAD": return -2;
            case "LATE": return -3;
            case "FULL": return -4;
            default: throw new IllegalArgumentException(name);
        }
    }

    private static Run refused(Run r, String... rows) {
        for (String row : rows) {
            int gap = row.lastIndexOf(' ');
            r.still(row.substring(0, gap), due(row.substring(gap + 1)));
        }
        return r;
    }

    private static void inANewObject() {
        Run r = run("refused in a new object");
        refused(r, OF_NOBODY);
        refused(r, OF_NUMBERS);
        refused(r, "bay() LATE", "undo() LATE", "again(0) LATE", "again(1) LATE");
    }

    private static void inABayOfNobody() {
        Run r = run("refused in a bay of nobody").bay("B0123456789" + "07" + "2" + "1" + "T31S4").does("seed(5)", 0).does("keep(1)", 0)
            .does("step()", 0);
        refused(r, OF_NOBODY);
        refused(r, OF_NUMBERS);
        refused(r, "again(0) LATE");
    }

    private static void inABayThatHasJustBeenMade() {
        Run r = run("refused in a bay that has just been made").bay(Fates.BAY);
        refused(r, ALWAYS);
        refused(r, OF_NUMBERS);
        refused(r, "undo() LATE", "again(0) LATE", "again(1) LATE", "head(0, 0) LATE", "head(4, 0) LATE", "climb(0) LATE", "climb(4) LATE");
    }

    private static void amongEachFate() {
        Run r = Fates.reached(run("refused among each fate"));
        refused(r, ALWAYS);
        for (int walker = 0; walker <= 3; walker++) {
            refused(r, "head(" + walker + ", 0) LATE", "head(" + walker + ", 1) LATE", "head(" + walker + ", 2) LATE", "head(" + walker + ", 3) BAD");
            refused(r, "safest(" + walker + ", 0) LATE", "safest(" + walker + ", 1) LATE", "safest(" + walker + ", 2) BAD");
            refused(r, "climb(" + walker + ") LATE", "shells(" + walker + ") LATE");
        }
        refused(r, "head(4, 0) LATE", "climb(4) LATE", "again(0) LATE", "again(1) LATE");
    }

    /** THE TEXT has 56 bytes, ACTS are 16, both SLOTS hold, a TOWER is full. */
    private static void withAllFull() {
        Run r = Fates.reached(run("refused with all full")).does("keep(0)", 4).does("seed(-7)", 0).does("head(4, 1)", 0).does("step()", 0)
            .does("keep(1)", 5);
        r.does("head(4, 0)", 1).does("head(4, 1)", 0).does("head(4, 0)", 1).does("head(4, 1)", 0).does("head(4, 2)", 1).asks("about(12)", 16);
        r.tell(LONG_TEXT + "XXXX").asks("about(13)", 56);
        refused(r, ALWAYS);
        refused(r, OF_NUMBERS);
        refused(r, "write(0) FULL", "write(255) FULL", "write(66) FULL", "bay() LATE");
        refused(r, "climb(4) FULL", "head(4, 2) LATE", "climb(1) LATE", "climb(2) LATE", "climb(3) LATE");
    }

    private static void atTheLastStep() {
        Run r = run("refused at STEP 40").bay("B9999999999" + "00" + "1" + "0" + "W10W10W10W10W10" + "T21").does("head(0, 1)", 0).does("keep(0)", 0)
            .times(2, "step()", 0).does("head(0, 0)", 1).does("climb(0)", 1).times(38, "step()", 0);
        refused(r, ALWAYS);
        refused(r, "step() LATE", "again(1) LATE");
        refused(r, "climb(0) LATE", "climb(1) LATE", "head(0, 1) LATE", "head(1, 0) LATE", "safest(0, 0) LATE", "shells(0) LATE");
    }

    private static void whenNobodyWalks() {
        Run r = run("refused when nobody WALKS").bay("B0000000000" + "00" + "1" + "0" + "W10W20W30W10W20" + "T14T21");
        for (int walker = 0; walker <= 4; walker++) r.does("head(" + walker + ", 1)", 0);
        r.does("step()", 31);
        refused(r, ALWAYS);
        for (int walker = 0; walker <= 4; walker++) {
            refused(r, "head(" + walker + ", 2) LATE", "climb(" + walker + ") LATE", "safest(" + walker + ", 0) LATE", "shells(" + walker + ") LATE");
        }
    }
}
