/** Promises 1 to 9: a new object, write, wipe, fault, bay, about, cell, walker, deep. */
public final class BayTest {
    private static final String BARE = "B0000000000" + "00" + "1" + "0";
    private static final Check CHECK = new Check("BayTest");

    public static void main(String[] args) {
        aNewObject();
        write();
        wipe();
        faultInTheHead();
        faultInTheParts();
        faultOfTooMany();
        bay();
        bayWithAFault();
        about();
        cell();
        walker();
        deep();
        CHECK.end();
    }

    private static void due(String call, long got, long want) {
        CHECK.due(call, got, want);
    }

    private static void aNewObject() {
        OverSands x = new OverSands();
        int[] about = {0, 0, 0, 0, 0, 1, 0, 0, 0, 0, 0, 0, 0, 0};
        for (int what = 0; what < about.length; what++) due("new: about(" + what + ")", x.about(what), about[what]);
        for (int cell = 0; cell <= 9; cell++) {
            for (int what = 0; what <= 4; what++) due("new: cell(" + cell + ", " + what + ")", x.cell(cell, what), 0);
        }
        due("new: walker(0, 0)", x.walker(0, 0), OverSands.UNKNOWN);
        due("new: seed(7)", x.seed(7L), 0L);
        due("new: again(0)", x.again(0), OverSands.LATE);
        due("new: again(1)", x.again(1), OverSands.LATE);
        due("new: undo()", x.undo(), OverSands.LATE);
        due("new: deep(3, 5)", x.deep(3, 5), 5);
    }

    private static void write() {
        OverSands x = new OverSands();
        due("write(-1)", x.write(-1), OverSands.BAD);
        due("write(256)", x.write(256), OverSands.BAD);
        due("write(MIN)", x.write(Integer.MIN_VALUE), OverSands.BAD);
        due("write(MAX)", x.write(Integer.MAX_VALUE), OverSands.BAD);
        due("about(13)", x.about(13), 0);
        due("write(0)", x.write(0), 1);
        due("write(255)", x.write(255), 2);
        for (int k = 3; k <= 56; k++) due("write, the " + k + "th", x.write(66), k);
        due("write(66), full", x.write(66), OverSands.FULL);
        due("write(256), full: BAD is told first", x.write(256), OverSands.BAD);
        due("about(13)", x.about(13), 56);
    }

    private static void wipe() {
        OverSands x = new OverSands();
        due("wipe() of nothing", x.wipe(), 0);
        Check.tell(x, BARE + "W11");
        due("wipe()", x.wipe(), 18);
        due("about(13)", x.about(13), 0);
        due("fault()", x.fault(), 0);
        due("write(66)", x.write(66), 1);
        due("fault(): nothing of the old text is left", x.fault(), 1);
        for (int k = 2; k <= 56; k++) x.write(66);
        due("wipe() of a full one", x.wipe(), 56);
        OverSands y = Check.bayOf(BARE + "W11");
        y.wipe();
        due("wipe() leaves the bay", y.about(0), 1);
    }

    private static void fault(String text, int want) {
        OverSands x = new OverSands();
        Check.tell(x, text);
        due("fault() of " + text, x.fault(), want);
        due("fault() of " + text + ", again", x.fault(), want);
        due("bay() of " + text + (want == OverSands.NONE ? "" : ", a fault"), x.bay() == OverSands.LATE ? 1 : 0, want == OverSands.NONE ? 0 : 1);
    }

    private static void faultInTheHead() {
        for (int length = 0; length < BARE.length(); length++) fault(BARE.substring(0, length), length);
        fault(BARE, OverSands.NONE);
        fault("b" + BARE.substring(1), 0);
        fault("0" + BARE, 0);
        for (int cell = 0; cell <= 9; cell++) {
            fault(with(BARE, 1 + cell, '/'), 1 + cell);
            fault(with(BARE, 1 + cell, ':'), 1 + cell);
            fault(with(BARE, 1 + cell, '9'), OverSands.NONE);
        }
        String ten = "B9876543210";
        fault(ten + "5010", 11);
        fault(ten + "/010", 11);
        fault(ten + "4110", 12);
        fault(ten + "4", 12);
        fault(ten + "4910", 12);
        fault(ten + "4010", OverSands.NONE);
        fault(ten + "3910", OverSands.NONE);
        fault(ten + "0a10", 12);
        fault(ten + "0000", 13);
        fault(ten + "0040", 13);
        fault(ten + "0039", OverSands.NONE);
        fault(ten + "001:", 14);
    }

    private static void faultInTheParts() {
        fault(BARE + "W", 16);
        fault(BARE + "W1", 17);
        fault(BARE + "W10", OverSands.NONE);
        fault(BARE + "W35", OverSands.NONE);
        fault(BARE + "W00", 16);
        fault(BARE + "W40", 16);
        fault(BARE + "W16", 17);
        fault(BARE + "w10", 15);
        fault(BARE + "0", 15);
        fault(BARE + "B", 15);
        fault(BARE + "T", 16);
        fault(BARE + "T1", 17);
        fault(BARE + "T11", OverSands.NONE);
        fault(BARE + "T84", OverSands.NONE);
        fault(BARE + "T01", 16);
        fault(BARE + "T91", 16);
        fault(BARE + "T10", 17);
        fault(BARE + "T15", 17);
        fault(BARE + "T11T1", 19);
        fault(BARE + "T11T11", 19);
        fault(BARE + "T11T21", OverSands.NONE);
        fault(BARE + "S", 16);
        fault(BARE + "S1", OverSands.NONE);
        fault(BARE + "S8", OverSands.NONE);
        fault(BARE + "S0", 16);
        fault(BARE + "S9", 16);
        fault(BARE + "S3S3", 18);
        fault(BARE + "T33S3", OverSands.NONE);
        fault(BARE + "W10x" + "W99", 18);
    }

    private static void faultOfTooMany() {
        String five = BARE + "W10W21W32W13W24";
        String towers = five + "T11T24";
        String all = towers + "S1S2S3S4S5S6S7S8";
        fault(five, OverSands.NONE);
        fault(five + "W", 30);
        fault(five + "W10", 30);
        fault(towers, OverSands.NONE);
        fault(towers + "T", 36);
        fault(towers + "T31", 36);
        fault(all, OverSands.NONE);
        fault(all + "S", 52);
        fault(all + "S1", 52);
        fault(all + "W", 52);
        fault(all + "T", 52);
        fault(all + "????", 52);
    }

    private static void bay() {
        OverSands x = new OverSands();
        x.seed(77L);
        Check.tell(x, "B1234567890" + "07" + "2" + "1" + "W31S2T43W10S7T62");
        due("bay()", x.bay(), 22);
        due("the text stays", x.about(13), 31);
        due("the seed stays", x.seed(77L), 77L);
        due("cell(8, 0)", x.cell(8, 0), 9);
        x.head(0, 1);
        Check.steps(x, 7);
        x.keep(0);
        x.keep(1);
        Check.tell(x, BARE + "W23");
        due("bay() anew", x.bay(), 10);
        due("THE STEP is 0", x.about(2), 0);
        due("no ACTS", x.about(12), 0);
        due("undo()", x.undo(), OverSands.LATE);
        due("again(0): what was kept is gone", x.again(0), OverSands.LATE);
        due("again(1): what was kept is gone", x.again(1), OverSands.LATE);
        due("walker(0, 3): it STANDS", x.walker(0, 3), 0);
        due("walker(0, 2): on CELL 0", x.walker(0, 2), 0);
        due("walker(0, 4): it WALKS", x.walker(0, 4), 0);
        due("walker(1, 0)", x.walker(1, 0), OverSands.UNKNOWN);
        due("cell(2, 2): no more soft", x.cell(2, 2), 0);
        due("cell(4, 3): no more a tower", x.cell(4, 3), 0);
        due("cell(8, 0)", x.cell(8, 0), 0);
        due("bay() of the same text", x.bay(), 10);
    }

    private static void bayWithAFault() {
        String[] texts = {"", "B", BARE + "W", BARE + "W20T55", "C" + BARE.substring(1), BARE + "S1S1"};
        for (String text : texts) {
            OverSands x = Check.bayOf("B1234567890" + "07" + "2" + "1" + "W31S2T43");
            x.head(0, 1);
            x.step();
            x.keep(1);
            Check.tell(x, text);
            String before = Check.seen(x);
            due("bay() of " + text, x.bay(), OverSands.LATE);
            CHECK.holds("a refused bay changes nothing: " + text, before.equals(Check.seen(x)));
            due("again(1): still kept", x.again(1), 1);
        }
    }

    private static void about() {
        // Walker 0 is over, 1 drowned, 2 stuck, 3 up, 4 walks.
        OverSands x = Check.bayOf("B0000000000" + "02" + "1" + "0" + "W35W10W15W15W15" + "S1T12");
        due("about(3) at 0", x.about(3), 2);
        x.head(0, 1);
        Check.steps(x, 2);
        due("about(3) at 2", x.about(3), 0);
        for (int walker = 1; walker <= 3; walker++) x.head(walker, 1);
        due("step(): walker 1 is drowned at 3", x.step(), 2);
        x.head(2, 0);
        due("climb(3)", x.climb(3), 1);
        due("step(): walker 2 is stuck", x.step(), 4);
        Check.steps(x, 3);
        int[] want = {5, 1, 7, 5, 2, 1, 0, 16, 1, 2, 4, 8, 13, 35};
        for (int what = 0; what < want.length; what++) due("about(" + what + ")", x.about(what), want[what]);
        due("about(-1)", x.about(-1), OverSands.BAD);
        due("about(14)", x.about(14), OverSands.BAD);
        due("about(MIN)", x.about(Integer.MIN_VALUE), OverSands.BAD);
        OverSands y = Check.bayOf("B0000000000" + "39" + "3" + "8" + "T81T11");
        int[] other = {0, 2, 0, 9, 39, 3, 8, 0, 0, 0, 0, 0, 0, 21};
        for (int what = 0; what < other.length; what++) due("y: about(" + what + ")", y.about(what), other[what]);
    }

    private static void cell() {
        OverSands x = Check.bayOf("B1020304056" + "03" + "2" + "1" + "W25W25W25" + "S5T44T11");
        // WATER at 0 is 1 + 2 * 3 = 7.
        int[] height = {1, 0, 2, 0, 3, 0, 4, 0, 5, 6};
        int[] deep = {0, 7, 5, 7, 4, 7, 3, 7, 2, 0};
        for (int cell = 0; cell <= 9; cell++) {
            due("cell(" + cell + ", 0)", x.cell(cell, 0), height[cell]);
            due("cell(" + cell + ", 1)", x.cell(cell, 1), deep[cell]);
            due("cell(" + cell + ", 2)", x.cell(cell, 2), cell == 5 ? 1 : 0);
            due("cell(" + cell + ", 3)", x.cell(cell, 3), cell == 4 ? 4 : cell == 1 ? 1 : 0);
            due("cell(" + cell + ", 4)", x.cell(cell, 4), 0);
        }
        x.step();
        due("cell(1, 1) at 1", x.cell(1, 1), 5);
        for (int walker = 0; walker < 2; walker++) x.head(walker, 1);
        Check.steps(x, 3);
        // On CELL 2 at 2, then it is deep where they begin, one cell at a time: 3 at 3, 4 at 4.
        due("walker(0, 2)", x.walker(0, 2), 4);
        due("climb(0)", x.climb(0), 1);
        due("climb(1)", x.climb(1), 2);
        due("cell(4, 4)", x.cell(4, 4), 2);
        due("cell(1, 4)", x.cell(1, 4), 0);
        due("cell(-1, 0)", x.cell(-1, 0), OverSands.UNKNOWN);
        due("cell(10, 0)", x.cell(10, 0), OverSands.UNKNOWN);
        due("cell(10, 9): UNKNOWN is told first", x.cell(10, 9), OverSands.UNKNOWN);
        due("cell(9, -1)", x.cell(9, -1), OverSands.BAD);
        due("cell(9, 5)", x.cell(9, 5), OverSands.BAD);
    }

    private static void walker() {
        OverSands x = Check.bayOf(BARE + "W14W35W20");
        int[] pace = {1, 3, 2};
        int[] wade = {4, 5, 0};
        for (int walker = 0; walker <= 2; walker++) {
            due("walker(" + walker + ", 0)", x.walker(walker, 0), pace[walker]);
            due("walker(" + walker + ", 1)", x.walker(walker, 1), wade[walker]);
            for (int what = 2; what <= 4; what++) due("walker(" + walker + ", " + what + ")", x.walker(walker, what), 0);
        }
        x.head(1, 1);
        x.head(2, 2);
        due("walker(1, 3)", x.walker(1, 3), 1);
        due("walker(2, 3)", x.walker(2, 3), 2);
        x.step();
        due("walker(1, 2)", x.walker(1, 2), 3);
        due("walker(2, 2)", x.walker(2, 2), 0);
        due("walker(3, 0)", x.walker(3, 0), OverSands.UNKNOWN);
        due("walker(-1, 0)", x.walker(-1, 0), OverSands.UNKNOWN);
        due("walker(3, 7): UNKNOWN is told first", x.walker(3, 7), OverSands.UNKNOWN);
        due("walker(0, 5)", x.walker(0, 5), OverSands.BAD);
        due("walker(0, -1)", x.walker(0, -1), OverSands.BAD);
    }

    private static void deep() {
        OverSands x = Check.bayOf("B0123456789" + "10" + "2" + "1");
        // WATER: 9 at 0 .. 6, then 7, 5, 3, 1 at LOW, and as it came.
        int[] water = {9, 9, 9, 9, 9, 9, 9, 7, 5, 3, 1, 3, 5, 7, 9};
        for (int step = 0; step <= 40; step++) {
            int w = step < water.length ? water[step] : 9;
            for (int cell = 0; cell <= 9; cell++) {
                int want = cell == 0 || cell == 9 || w < cell ? 0 : w - cell;
                due("deep(" + cell + ", " + step + ")", x.deep(cell, step), want);
            }
        }
        due("deep(-1, 3)", x.deep(-1, 3), OverSands.UNKNOWN);
        due("deep(10, 3)", x.deep(10, 3), OverSands.UNKNOWN);
        due("deep(10, 41): UNKNOWN is told first", x.deep(10, 41), OverSands.UNKNOWN);
        due("deep(4, -1)", x.deep(4, -1), OverSands.BAD);
        due("deep(4, 41)", x.deep(4, 41), OverSands.BAD);
        due("deep(4, MIN)", x.deep(4, Integer.MIN_VALUE), OverSands.BAD);
    }

    private static String with(String text, int place, char letter) {
        return text.substring(0, place) + letter + text.substring(place + 1);
    }
}
