/** The edges of THE TEXT, BAY and FAULT, and of promises 1 to 5: a new object, write, wipe, fault, bay. */
public final class EdgeTextTest {
    private static final int BAD = OverSands.BAD, LATE = OverSands.LATE, FULL = OverSands.FULL, NONE = OverSands.NONE;
    private static final int UNKNOWN = OverSands.UNKNOWN;
    private static final String BARE = "B0000000000" + "00" + "1" + "0";
    /** The longest there is: 52 bytes. */
    private static final String LONGEST = "B0123456789" + "40" + "3" + "9" + "W10W21W32W13W35" + "T14T81" + "S1S2S3S4S5S6S7S8";
    private static final Check CHECK = new Check("EdgeTextTest");

    public static void main(String[] args) {
        aNewObject();
        everyByteIsTaken();
        noByteIsRefused();
        thereAre56();
        fullAndNoByte();
        fullTakesAgainWhenWiped();
        wipeOfNone();
        wipeOfAFullOne();
        wipeLeavesAllElse();
        faultOfTheEmptyText();
        faultIsTheLengthWhileItIsNotAtItsEnd();
        faultOfEveryByteAtEveryPlace();
        faultOfEveryByteInAnotherOrder();
        faultWhateverCameBehind();
        faultIsTheFirstOne();
        heights();
        low();
        riseAndLeast();
        partsAreNoneOrMore();
        walkersByPaceAndWade();
        aSixthWalker();
        towersByCellAndRoom();
        noCellHasTwoTowers();
        aThirdTower();
        softCells();
        softNotToldBefore();
        aNinthSoft();
        theLengthSetAside();
        faultChangesNothing();
        bayTellsWalkersAndTowers();
        bayNumbersPartsAsTheyAreTold();
        bayKeepsTheTextAndTheSeed();
        bayHasNoActsAndNothingKept();
        bayStandsAllOnCell0();
        bayStandsAllFiveThatWereOver();
        bayWithAFault();
        CHECK.end();
    }

    private static Run run(String sentence) {
        return new Run(CHECK, sentence);
    }

    private static void fault(String sentence, String text, int want) {
        OverSands x = new OverSands();
        Check.tell(x, text);
        CHECK.due(sentence + " | fault() of " + text, x.fault(), want);
        CHECK.due(sentence + " | bay() of " + text, x.bay() == LATE ? LATE : 0, want == NONE ? 0 : LATE);
    }

    // ---- promise 1

    private static void aNewObject() {
        Run r = run("A bare bay, nobody. At first all HEIGHTS, LOW, LEAST are 0, RISE is 1");
        for (int what = 0; what <= 13; what++) r.still("about(" + what + ")", what == 5 ? 1 : 0);
        for (int cell = 0; cell <= 9; cell++) for (int what = 0; what <= 4; what++) r.asks("cell(" + cell + ", " + what + ")", 0);
        for (int walker = 0; walker <= 4; walker++) r.still("walker(" + walker + ", 0)", UNKNOWN);
        r.still("fault()", 0).still("bay()", LATE).still("undo()", LATE).still("again(0)", LATE).still("again(1)", LATE);
        r.still("saved()", 0).still("ahead()", LATE).still("seed(0)", 0);
        r.asks("deep(1, 0)", 0).asks("deep(1, 1)", 1).asks("deep(8, 9)", 9).asks("deep(8, 10)", 9).asks("deep(0, 40)", 0).asks("deep(9, 40)", 0);
        r.does("step()", 0).still("about(3)", 1).does("undo()", 0);
        r.does("keep(1)", 0).does("again(1)", 0);
    }

    // ---- promise 2

    private static void everyByteIsTaken() {
        for (int letter = 0; letter <= 255; letter++) {
            OverSands x = new OverSands();
            CHECK.due("A byte (0 .. 255) comes behind THE TEXT | write(" + letter + ")", x.write(letter), 1);
            CHECK.due("how long it is | the same again", x.write(letter), 2);
            CHECK.due("of two alike a fault is the first, but for B the second | fault()", x.fault(), letter == 'B' ? 1 : 0);
        }
    }

    private static void noByteIsRefused() {
        Run r = run("write: a byte (0 .. 255); BAD");
        for (String letter : new String[] {"-1", "256", "-2", "257", "322", "-190", "65536", "MIN", "MAX"}) r.still("write(" + letter + ")", BAD);
        r.does("write(66)", 1);
        // 322 and -190 would be B if only their lowest eight bits were looked at.
        for (String letter : new String[] {"-1", "256", "304", "-208", "MIN", "MAX"}) r.still("write(" + letter + ")", BAD);
        r.asks("about(13)", 1).asks("fault()", 1);
    }

    private static void thereAre56() {
        Run r = run("FULL: there are 56");
        r.tell(LONGEST).does("write(0)", 53).does("write(0)", 54);
        r.does("write(255)", 55).still("about(13)", 55).does("write(255)", 56);
        r.still("write(0)", FULL).still("write(255)", FULL).still("write(66)", FULL);
        r.asks("about(13)", 56).asks("fault()", 52);
    }

    private static void fullAndNoByte() {
        Run r = run("write: BAD is told ahead of FULL").tell(LONGEST + "XXXX");
        r.still("write(256)", BAD).still("write(-1)", BAD).still("write(MAX)", BAD).still("write(MIN)", BAD).still("write(65)", FULL);
    }

    private static void fullTakesAgainWhenWiped() {
        run("FULL only while there are 56").tell(LONGEST + "XXXX").still("write(66)", FULL).does("wipe()", 56).does("write(66)", 1)
            .still("fault()", 1);
    }

    // ---- promise 3

    private static void wipeOfNone() {
        run("THE TEXT is empty: how long it was").does("wipe()", 0).does("wipe()", 0).does("write(7)", 1).does("wipe()", 1).does("wipe()", 0)
            .still("fault()", 0);
    }

    private static void wipeOfAFullOne() {
        Run r = run("how long it was, a full one").tell(LONGEST + "1234").does("wipe()", 56).still("about(13)", 0).still("fault()", 0);
        r.does("write(66)", 1).does("wipe()", 1).does("wipe()", 0).still("bay()", LATE);
        run("how long it was, one ahead of full").tell(LONGEST + "123").does("wipe()", 55);
    }

    private static void wipeLeavesAllElse() {
        Run r = run("wipe: only THE TEXT is empty").bay(BARE + "W35W14" + "T31S2").does("seed(44)", 0).does("head(0, 1)", 0).does("keep(0)", 0)
            .does("step()", 0);
        r.does("wipe()", 26).asks("about(0)", 2).asks("about(1)", 1).asks("about(2)", 1).asks("about(12)", 2).asks("cell(2, 2)", 1)
            .asks("cell(3, 3)", 1);
        r.where(0, 3, 0).does("seed(44)", 44).does("undo()", 1).where(0, 0, 0).does("again(0)", 0).asks("walker(0, 3)", 1);
    }

    // ---- promise 4

    private static void faultOfTheEmptyText() {
        run("its length, if it is only not at its end: the empty text").still("fault()", 0).still("bay()", LATE);
    }

    private static void faultIsTheLengthWhileItIsNotAtItsEnd() {
        // Ends of parts, where it is a BAY: behind the head, and behind each part.
        String ends = "15 18 21 24 27 30 33 36 38 40 42 44 46 48 50 52 ";
        for (int length = 0; length <= 52; length++) {
            boolean whole = (" " + ends).contains(" " + length + " ");
            fault("its length, if it is only not at its end; NONE: none", LONGEST.substring(0, length), whole ? NONE : length);
        }
    }

    /** At each place all 256 bytes; the ones that are taken there stand in the row. */
    private static void everyByte(String text, String[] taken, String ends) {
        CHECK.due("a row for each place of " + text, taken.length, text.length() + 1);
        for (int place = 0; place < taken.length; place++) {
            for (int letter = 0; letter <= 255; letter++) {
                OverSands x = new OverSands();
                Check.tell(x, text.substring(0, place));
                x.write(letter);
                boolean fits = taken[place].indexOf(letter) >= 0;
                boolean whole = (" " + ends + " ").contains(" " + (place + 1) + " ");
                int want = !fits ? place : whole ? NONE : place + 1;
                CHECK.due("the first byte by which THE TEXT can be no BAY | byte " + letter + " behind " + text.substring(0, place), x.fault(), want);
            }
        }
    }

    private static void faultOfEveryByteAtEveryPlace() {
        String f = "0123456789";
        String[] taken = {
            "B", f, f, f, f, f, f, f, f, f, f, "01234", "0", "123", f,
            "WTS", "123", "012345", "WTS", "123", "012345", "WTS", "123", "012345", "WTS", "123", "012345", "WTS", "123", "012345",
            "TS", "12345678", "1234", "TS", "2345678", "1234",
            "S", "12345678", "S", "2345678", "S", "345678", "S", "45678", "S", "5678", "S", "678", "S", "78", "S", "8", "",
        };
        everyByte(LONGEST, taken, "15 18 21 24 27 30 33 36 38 40 42 44 46 48 50 52");
    }

    private static void faultOfEveryByteInAnotherOrder() {
        String f = "0123456789";
        String text = "B9999999999" + "39" + "1" + "0" + "S8T84S4W30T43S1W15";
        String[] taken = {
            "B", f, f, f, f, f, f, f, f, f, f, "01234", f, "123", f,
            "WTS", "12345678", "WTS", "12345678", "1234", "WTS", "1234567", "WTS", "123", "012345", "WTS", "1234567", "1234",
            "WS", "123567", "WS", "123", "012345", "WS",
        };
        everyByte(text, taken, "15 17 20 22 25 28 30 33");
    }

    private static void faultWhateverCameBehind() {
        String[] spoiled = {"X", "BX", "B0123456789" + "5", "B0123456789" + "41", "B0123456789" + "400",
            BARE + "W0", BARE + "W16", BARE + "T10", BARE + "S3S3", BARE + "T21T2"};
        int[] place = {0, 1, 11, 12, 13, 16, 17, 17, 18, 19};
        String[] behind = {"", "0", "B", "W10", BARE, "W10W10W10W10W10", "\u0000\u00ff"};
        for (int k = 0; k < spoiled.length; k++) {
            for (String tail : behind) fault("whatever came behind it", spoiled[k] + tail, place[k]);
        }
    }

    private static void faultIsTheFirstOne() {
        fault("the first byte", "B01234X6789" + "99" + "9" + "x" + "W99", 6);
        fault("the first byte", "b0123456789" + "99" + "9" + "x" + "W99", 0);
        fault("the first byte", BARE + "W19" + "T00" + "S9", 17);
        fault("the first byte", BARE + "S1S1S1", 18);
        fault("the first byte", BARE + BARE, 15);
    }

    private static void heights() {
        run("ten figures (HEIGHTS of CELLS 0 .. 9, 0 .. 9)").bay("B0123456789" + "00" + "1" + "0").asks("cell(0, 0)", 0).asks("cell(1, 0)", 1)
            .asks("cell(8, 0)", 8).asks("cell(9, 0)", 9);
        run("ten figures").bay("B9876543210" + "00" + "1" + "0").asks("cell(0, 0)", 9).asks("cell(9, 0)", 0);
        fault("ten figures, not nine", "B012345678" + "W10", 10);
        fault("ten figures, not eleven", "B01234567890" + "00" + "1" + "0", 13);
    }

    private static void low() {
        String ten = "B0000000000";
        int[] taken = {0, 1, 9, 10, 19, 20, 29, 30, 39, 40};
        for (int low : taken) {
            run("LOW (two figures, 00 .. 40)").bay(ten + low / 10 + low % 10 + "1" + "0").asks("about(4)", low).asks("deep(5, " + low + ")", 0);
        }
        for (int low = 41; low <= 49; low++) fault("LOW 40 at most: the second figure", ten + low + "10", 12);
        for (int low = 50; low <= 99; low++) fault("LOW 40 at most: the first figure", ten + low + "10", 11);
        fault("LOW has two figures", ten + "4", 12);
        fault("LOW has two figures", ten + "4W", 12);
        fault("LOW has two figures", ten + "4:10", 12);
        fault("LOW has two figures", ten + "0/10", 12);
    }

    private static void riseAndLeast() {
        String told = "B0000000000" + "20";
        for (int rise = 1; rise <= 3; rise++) run("RISE (1 .. 3)").bay(told + rise + "0").asks("about(5)", rise).asks("deep(1, 21)", rise);
        fault("RISE is 1 at least", told + "00", 13);
        fault("RISE is 3 at most", told + "40", 13);
        fault("RISE is 3 at most", told + "90", 13);
        for (int least = 0; least <= 9; least++) run("LEAST (0 .. 9)").bay(told + "1" + least).asks("about(6)", least).asks("deep(1, 20)", least);
        fault("LEAST is a figure", told + "1/", 14);
        fault("LEAST is a figure", told + "1:", 14);
        fault("LEAST is told", told + "1W10", 14);
    }

    private static void partsAreNoneOrMore() {
        run("then PARTS, none or more").tell(BARE).still("fault()", NONE).does("bay()", 0).still("about(0)", 0).still("about(1)", 0);
        fault("PARTS are W, T, S", BARE + "X", 15);
        fault("PARTS are W, T, S", BARE + "w10", 15);
        fault("PARTS are W, T, S", BARE + "t11", 15);
        fault("PARTS are W, T, S", BARE + "s1", 15);
        fault("PARTS are W, T, S", BARE + "W101", 18);
        fault("PARTS are W, T, S", BARE + "S11", 17);
        fault("PARTS are W, T, S", BARE + "\u0000", 15);
    }

    private static void walkersByPaceAndWade() {
        for (int pace = 1; pace <= 3; pace++) {
            for (int wade = 0; wade <= 5; wade++) {
                run("PACE p (1 .. 3), wades d deep (0 .. 5)").bay(BARE + "W" + pace + wade).asks("walker(0, 0)", pace).asks("walker(0, 1)", wade);
            }
        }
        fault("PACE is 1 at least", BARE + "W05", 16);
        fault("PACE is 3 at most", BARE + "W45", 16);
        fault("it wades 5 deep at most", BARE + "W16", 17);
        fault("it wades 0 deep at least", BARE + "W1/", 17);
    }

    private static void aSixthWalker() {
        String five = BARE + "W10W10W10W10W10";
        run("WALKERS 0, 1, .. (5 at most)").tell(five).still("fault()", NONE).does("bay()", 50).still("walker(4, 0)", 1)
            .still("walker(5, 0)", UNKNOWN);
        fault("a sixth W", five + "W", 30);
        fault("a sixth W", five + "W1", 30);
        fault("a sixth W", five + "W10", 30);
        fault("a sixth W, with others between", BARE + "W10S1W10T11W10W10S2W10" + "S3" + "W", 39);
        fault("a fifth W is none too many", BARE + "W10W10W10W10W", 28);
    }

    private static void towersByCellAndRoom() {
        for (int cell = 1; cell <= 8; cell++) {
            for (int room = 1; room <= 4; room++) {
                run("a TOWER on CELL c (1 .. 8) for k WALKERS (1 .. 4)").bay(BARE + "T" + cell + room).asks("cell(" + cell + ", 3)", room);
            }
        }
        fault("a TOWER on CELL 1 at least", BARE + "T01", 16);
        fault("a TOWER on CELL 8 at most", BARE + "T91", 16);
        fault("for 1 at least", BARE + "T10", 17);
        fault("for 4 at most", BARE + "T15", 17);
    }

    private static void noCellHasTwoTowers() {
        for (int cell = 1; cell <= 8; cell++) {
            fault("none has two", BARE + "T" + cell + "1" + "T" + cell, 19);
            fault("none has two", BARE + "T" + cell + "4" + "S1W10" + "T" + cell + "2", 24);
            fault("a TOWER on a SOFT CELL", BARE + "S" + cell + "T" + cell + "1", NONE);
        }
    }

    private static void aThirdTower() {
        run("2 at most").tell(BARE + "T11T84").still("fault()", NONE).does("bay()", 2).asks("cell(1, 3)", 1).asks("cell(8, 3)", 4);
        fault("a third T", BARE + "T11T84T", 21);
        fault("a third T", BARE + "T11T84T31", 21);
        fault("a third T", BARE + "T11S1W10T84T31", 26);
        fault("a second T is none too many", BARE + "T11T", 19);
    }

    private static void softCells() {
        for (int cell = 1; cell <= 8; cell++) {
            run("CELL c (1 .. 8) is SOFT").bay(BARE + "S" + cell).asks("cell(" + cell + ", 2)", 1).asks("cell(" + (cell - 1) + ", 2)", 0)
                .asks("cell(" + (cell + 1) + ", 2)", 0);
        }
        fault("SOFT is CELL 1 at least", BARE + "S0", 16);
        fault("SOFT is CELL 8 at most", BARE + "S9", 16);
    }

    private static void softNotToldBefore() {
        for (int cell = 1; cell <= 8; cell++) {
            fault("(not told before)", BARE + "S" + cell + "S" + cell, 18);
            fault("(not told before)", BARE + "S" + cell + "W10T11" + "S" + cell + "S5", 24);
            fault("a SOFT CELL with a TOWER", BARE + "T" + cell + "1" + "S" + cell, NONE);
        }
    }

    private static void aNinthSoft() {
        String eight = BARE + "S8S7S6S5S4S3S2S1";
        run("eight SOFT ones").tell(eight).still("fault()", NONE).does("bay()", 0);
        fault("a ninth S", eight + "S", 31);
        fault("a ninth S", eight + "S1", 31);
        fault("a ninth S", eight + "W10T11S9", 37);
        fault("an eighth S is none too many", BARE + "S8S7S6S5S4S3S2S", 30);
    }

    private static void theLengthSetAside() {
        fault("its length set aside: the longest", LONGEST, NONE);
        String[] tails = {"W", "T", "S", "X", "W10", "T11", "S111", "0000", "\u0000\u0000\u0000\u0000"};
        for (String tail : tails) fault("its length set aside: a full text", LONGEST + tail, 52);
        fault("a full text of B", "B".repeat(56), 1);
        fault("a full text of figures", "0".repeat(56), 0);
        fault("a full text with a part begun anew", BARE + "W10W10W10W10W10" + "S1S2S3S4S5S6S7S8" + "T11" + "T21" + "1111", 52);
    }

    private static void faultChangesNothing() {
        Run r = run("fault() changes nothing").bay("B1111111111" + "05" + "2" + "3" + "W25" + "S4T42").does("head(0, 1)", 0).does("step()", 0)
            .does("keep(1)", 1).does("seed(9)", 0);
        r.tell(BARE + "T8").still("fault()", 17).still("bay()", LATE).does("wipe()", 17).still("fault()", 0);
        r.asks("about(5)", 2).asks("cell(8, 3)", 0).asks("cell(4, 3)", 2);
    }

    // ---- promise 5

    private static void bayTellsWalkersAndTowers() {
        for (int walkers = 0; walkers <= 5; walkers++) {
            for (int towers = 0; towers <= 2; towers++) {
                String text = BARE + "W10".repeat(walkers) + "T11T21".substring(0, 3 * towers);
                run("10 times WALKERS, and TOWERS").tell(text).does("bay()", 10 * walkers + towers).asks("about(0)", walkers)
                    .asks("about(1)", towers);
            }
        }
    }

    private static void bayNumbersPartsAsTheyAreTold() {
        Run r = run("PARTS, numbered as they are told").bay(BARE + "W15S3W24T21W33S1W12W21");
        int[] pace = {1, 2, 3, 1, 2};
        for (int walker = 0; walker <= 4; walker++) r.asks("walker(" + walker + ", 0)", pace[walker]).asks("walker(" + walker + ", 1)", 5 - walker);
    }

    private static void bayKeepsTheTextAndTheSeed() {
        Run r = run("THE TEXT itself stays; THE SEED stays").does("seed(MIN)", 0).tell(LONGEST).does("bay()", 52).does("bay()", 52);
        r.asks("about(13)", 52).asks("fault()", NONE).does("seed(MIN)", Long.MIN_VALUE).does("write(83)", 53).still("fault()", 52)
            .still("bay()", LATE);
        r.asks("about(0)", 5);
    }

    private static void bayHasNoActsAndNothingKept() {
        Run r = run("no ACTS; what was kept is gone").bay(BARE + "W10");
        for (int k = 0; k < 8; k++) r.does("head(0, 1)", k == 0 ? 0 : 2).does("head(0, 2)", 1);
        r.still("about(12)", 16).does("keep(0)", 0).does("keep(1)", 0).does("bay()", 10).still("about(12)", 0).still("undo()", LATE);
        r.still("again(0)", LATE).still("again(1)", LATE).does("step()", 0).still("about(12)", 1).does("undo()", 0);
        r.asks("about(2)", 0).asks("walker(0, 3)", 0).asks("walker(0, 2)", 0);
    }

    private static void bayStandsAllOnCell0() {
        String text = "B0000000000" + "02" + "1" + "0" + "W35W10W15W15W15" + "S1T11";
        Run r = Fates.reached(run("When THE BAY is made anew, THE STEP is 0, all WALKERS STAND on CELL 0"), text);
        r.does("head(4, 1)", 0).still("about(2)", 4).does("bay()", 51).still("about(2)", 0).still("about(7)", 31);
        for (int walker = 0; walker <= 4; walker++) {
            r.asks("walker(" + walker + ", 2)", 0).asks("walker(" + walker + ", 3)", 0).asks("walker(" + walker + ", 4)", 0);
        }
        r.asks("cell(1, 4)", 0).asks("about(8)", 0).asks("about(9)", 0).asks("about(10)", 0).asks("about(11)", 0);
    }

    private static void bayStandsAllFiveThatWereOver() {
        Run r = run("all WALKERS STAND on CELL 0, though each of the five was OVER").bay("B9999999999" + "00" + "1" + "0" + "W30W30W30W30W30");
        for (int walker = 0; walker <= 4; walker++) r.does("head(" + walker + ", 1)", 0);
        r.times(3, "step()", 0).asks("about(8)", 31).does("bay()", 50).asks("about(7)", 31).asks("about(8)", 0);
        for (int walker = 0; walker <= 4; walker++) r.where(walker, 0, 0).asks("walker(" + walker + ", 3)", 0);
    }

    private static void bayWithAFault() {
        String[] texts = {"", "B", "X", BARE.substring(0, 14), BARE + "W", BARE + "W1", BARE + "W10T",
            BARE + "T1", BARE + "S", BARE + "S1S1", BARE + "X", LONGEST + "S", LONGEST + "XXXX"};
        for (String text : texts) {
            Run r = run("bay: LATE: a FAULT (" + text + ")").bay("B1234567890" + "07" + "2" + "1" + "W31W25" + "S2T43").does("seed(77)", 0);
            r.does("head(0, 1)", 0).does("keep(1)", 0).does("step()", 0);
            r.tell(text).still("bay()", LATE).asks("about(0)", 2).asks("about(2)", 1).asks("about(12)", 2).asks("about(13)", text.length());
        }
    }
}
