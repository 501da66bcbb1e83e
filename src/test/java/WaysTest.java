/** Promises 14 to 22: gone, latest, safest, shells, cut, judged, ahead, aheadOf, saved. */
public final class WaysTest {
    /** WATER is as many as the steps from 20: one that wades 5 deep can go from 15 on. */
    private static final String TIDE = "B0000000000" + "20" + "1" + "0";
    /** Never deep. */
    private static final String BARE = "B9999999999" + "00" + "1" + "0";
    /** A rock at CELL 4 amid the sands, WATER as many as the steps from 5. */
    private static final String ROCK = "B0000900000" + "05" + "1" + "0";
    private static final int NONE = OverSands.NONE;
    private static final Check CHECK = new Check("WaysTest");

    public static void main(String[] args) {
        gone();
        goneFromAnywhere();
        goneRefused();
        latest();
        safest();
        safestOfLikeOnes();
        safestAtTheLast();
        safestRefused();
        shells();
        cut();
        judged();
        judgedRefused();
        ahead();
        saved();
        nothingIsChanged();
        CHECK.end();
    }

    private static void due(String call, long got, long want) {
        CHECK.due(call, got, want);
    }

    private static void gone() {
        OverSands x = Check.bayOf(TIDE + "W35W25W20");
        // Pace 3: till 15 it waits; then CELLS 3 at 16, 5, 7, 9 at 19; on bare sands it goes faster.
        int[] first = {19, 20, 21, 22, 23, 24, 25, 26, NONE};
        for (int start = 0; start <= 40; start++) {
            int want = start <= 15 ? 19 : start <= 23 ? first[start - 15] : NONE;
            due("gone(0, 0, " + start + ", 1)", x.gone(0, 0, start, 1), want);
            due("gone(0, 9, " + start + ", 2)", x.gone(0, 9, start, 2), want);
        }
        // Pace 2: CELLS 2, 3, 4, 5, 6 at 20, 8, 9 at 22.
        int[] second = {22, 23, 24, 25, 26, NONE};
        for (int start = 0; start <= 40; start++) {
            int want = start <= 15 ? 22 : start <= 20 ? second[start - 15] : NONE;
            due("gone(1, 0, " + start + ", 1)", x.gone(1, 0, start, 1), want);
        }
        for (int start = 0; start <= 40; start++) due("gone(2, 0, " + start + ", 1)", x.gone(2, 0, start, 1), NONE);
    }

    private static void goneFromAnywhere() {
        OverSands x = Check.bayOf(TIDE + "W35W35");
        due("gone(0, 9, 40, 1): it begins there", x.gone(0, 9, 40, 1), 40);
        due("gone(0, 0, 7, 2): it begins there", x.gone(0, 0, 7, 2), 7);
        due("gone(0, 0, 40, 1)", x.gone(0, 0, 40, 1), NONE);
        due("gone(0, 9, 40, 2)", x.gone(0, 9, 40, 2), NONE);
        due("gone(0, 5, 20, 1)", x.gone(0, 5, 20, 1), 22);
        due("gone(0, 5, 20, 2)", x.gone(0, 5, 20, 2), 22);
        due("gone(0, 4, 24, 2): 2 at 25, 0 at 26", x.gone(0, 4, 24, 2), 26);
        due("gone(0, 4, 24, 1): CELL 8 is 6 deep at 26", x.gone(0, 4, 24, 1), NONE);
        due("gone(0, 8, 0, 1): CELL 9 is never deep", x.gone(0, 8, 0, 1), 1);
        due("gone(0, 7, 0, 1): DROWNED at 1", x.gone(0, 7, 0, 1), NONE);
        OverSands y = Check.bayOf(BARE + "W10W30");
        due("gone(0, 1, 32, 1): at 40 just then", y.gone(0, 1, 32, 1), 40);
        due("gone(0, 1, 33, 1): not by 40", y.gone(0, 1, 33, 1), NONE);
        due("gone(1, 8, 39, 1)", y.gone(1, 8, 39, 1), 40);
        due("gone(1, 8, 39, 2)", y.gone(1, 8, 39, 2), NONE);
        // On CELL 3, soft, CELL 4 is too deep till 2: STUCK; from CELL 2 on bare ground it waits.
        OverSands z = Check.bayOf("B9999099999" + "04" + "1" + "0" + "W12" + "S3");
        due("gone(0, 3, 0, 1): STUCK", z.gone(0, 3, 0, 1), NONE);
        due("gone(0, 2, 0, 1): STUCK on CELL 3", z.gone(0, 2, 0, 1), NONE);
        due("gone(0, 2, 1, 1)", z.gone(0, 2, 1, 1), 8);
        due("gone(0, 3, 0, 2)", z.gone(0, 3, 0, 2), 3);
    }

    private static void goneRefused() {
        OverSands x = Check.bayOf(TIDE + "W35");
        due("gone(1, 0, 0, 1)", x.gone(1, 0, 0, 1), OverSands.UNKNOWN);
        due("gone(-1, 0, 0, 1)", x.gone(-1, 0, 0, 1), OverSands.UNKNOWN);
        due("gone(0, -1, 0, 1)", x.gone(0, -1, 0, 1), OverSands.UNKNOWN);
        due("gone(0, 10, 0, 1)", x.gone(0, 10, 0, 1), OverSands.UNKNOWN);
        due("gone(0, 10, 41, 0): UNKNOWN is told first", x.gone(0, 10, 41, 0), OverSands.UNKNOWN);
        due("gone(0, 0, 0, 0)", x.gone(0, 0, 0, 0), OverSands.BAD);
        due("gone(0, 0, 0, 3)", x.gone(0, 0, 0, 3), OverSands.BAD);
        due("gone(0, 0, -1, 1)", x.gone(0, 0, -1, 1), OverSands.BAD);
        due("gone(0, 0, 41, 1)", x.gone(0, 0, 41, 1), OverSands.BAD);
    }

    private static void latest() {
        OverSands x = Check.bayOf(TIDE + "W35W25W20");
        due("latest(0)", x.latest(0), 22);
        due("latest(1)", x.latest(1), 19);
        due("latest(2)", x.latest(2), NONE);
        due("latest(3)", x.latest(3), OverSands.UNKNOWN);
        due("latest(-1)", x.latest(-1), OverSands.UNKNOWN);
        Check.steps(x, 30);
        due("latest(0), whatever THE STEP is", x.latest(0), 22);
        OverSands y = Check.bayOf(BARE + "W10W20W30");
        due("latest(0)", y.latest(0), 31);
        due("latest(1)", y.latest(1), 35);
        due("latest(2)", y.latest(2), 37);
        // 3, 5, 7 at 3 where it is just 3 deep, 9; a step later it is 4 deep there.
        OverSands z = Check.bayOf("B0000000000" + "00" + "1" + "0" + "W33");
        due("latest(0): only at once", z.latest(0), 0);
    }

    private static void safest() {
        OverSands x = Check.bayOf(BARE + "W30W30W30" + "T31");
        due("safest(0, 0) on the shore", x.safest(0, 0), 3);
        due("safest(0, 1): it is back at once", x.safest(0, 1), 1);
        for (int walker = 0; walker < 3; walker++) x.head(walker, 1);
        x.step();
        due("safest(0, 0) on CELL 3", x.safest(0, 0), 7);
        due("safest(0, 1): up", x.safest(0, 1), 2);
        x.climb(1);
        due("safest(0, 0): the tower is full", x.safest(0, 0), 3);
        due("safest(0, 1): back at 2", x.safest(0, 1), 1);
        x.step();
        due("safest(0, 1): on at 3, back at 4", x.safest(0, 1), 0);
        OverSands y = Check.bayOf(ROCK + "W21" + "T41");
        Check.steps(y, 4);
        y.head(0, 1);
        Check.steps(y, 2);
        due("walker(0, 2)", y.walker(0, 2), 4);
        due("safest(0, 0): only up", y.safest(0, 0), 4);
        due("safest(0, 1)", y.safest(0, 1), 2);
        OverSands z = Check.bayOf(ROCK + "W21");
        Check.steps(z, 4);
        z.head(0, 1);
        Check.steps(z, 2);
        due("safest(0, 0): none", z.safest(0, 0), 0);
        due("safest(0, 1): none", z.safest(0, 1), NONE);
    }

    private static void safestOfLikeOnes() {
        OverSands x = Check.bayOf(TIDE + "W35");
        Check.steps(x, 18);
        x.head(0, 1);
        Check.steps(x, 2);
        due("walker(0, 2) at 20", x.walker(0, 2), 5);
        due("safest(0, 0)", x.safest(0, 0), 3);
        due("safest(0, 1): on and back both at 22", x.safest(0, 1), 0);
        Check.steps(x, 1);
        due("walker(0, 2) at 21", x.walker(0, 2), 8);
        due("safest(0, 1)", x.safest(0, 1), 0);
    }

    private static void safestAtTheLast() {
        OverSands x = Check.bayOf(BARE + "W10W10W20");
        x.head(0, 1);
        Check.steps(x, 8);
        x.head(0, 0);
        Check.steps(x, 30);
        x.head(1, 1);
        x.step();
        due("safest(0, 0) on CELL 8 at 39: over at 40", x.safest(0, 0), 1);
        due("safest(0, 1)", x.safest(0, 1), 0);
        due("safest(1, 0) on CELL 1 at 39: back at 40", x.safest(1, 0), 2);
        due("safest(1, 1)", x.safest(1, 1), 1);
        x.head(1, 0);
        x.step();
        due("safest(0, 0) on CELL 8 at 40", x.safest(0, 0), 0);
        due("safest(1, 1) on CELL 1 at 40", x.safest(1, 1), NONE);
        due("safest(2, 0) on the shore at 40", x.safest(2, 0), 2);
    }

    private static void safestRefused() {
        OverSands x = Check.bayOf(BARE + "W30");
        due("safest(1, 0)", x.safest(1, 0), OverSands.UNKNOWN);
        due("safest(-1, 2): UNKNOWN is told first", x.safest(-1, 2), OverSands.UNKNOWN);
        due("safest(0, 2)", x.safest(0, 2), OverSands.BAD);
        due("safest(0, -1)", x.safest(0, -1), OverSands.BAD);
        x.head(0, 1);
        Check.steps(x, 3);
        due("safest(0, 0): it is OVER", x.safest(0, 0), OverSands.LATE);
        due("safest(0, 2): BAD is told first", x.safest(0, 2), OverSands.BAD);
    }

    private static void shells() {
        OverSands x = Check.bayOf(TIDE + "W35W35");
        due("shells(0) on the shore", x.shells(0), 40);
        Check.steps(x, 18);
        x.head(0, 1);
        Check.steps(x, 2);
        due("shells(0) on CELL 5 at 20: at 24 it still comes over at 26", x.shells(0), 4);
        due("shells(1) on the shore", x.shells(1), 20);
        x.head(0, 0);
        Check.steps(x, 4);
        due("shells(0) at 24", x.shells(0), 0);
        x.step();
        due("shells(0) at 25", x.shells(0), NONE);
        x.step();
        due("shells(0): it is DROWNED", x.shells(0), OverSands.LATE);
        due("shells(2)", x.shells(2), OverSands.UNKNOWN);
        due("shells(-1)", x.shells(-1), OverSands.UNKNOWN);
        // From CELL 8 one comes over however deep it is: it is standing that drowns, at 26.
        OverSands v = Check.bayOf(TIDE + "W35");
        Check.steps(v, 18);
        v.head(0, 1);
        Check.steps(v, 3);
        due("shells(0) on CELL 8 at 21", v.shells(0), 4);
        OverSands y = Check.bayOf(BARE + "W10W20W10" + "S2");
        y.head(0, 1);
        y.head(1, 1);
        y.step();
        due("shells(0) on CELL 1 at 1: back at 40", y.shells(0), 38);
        due("shells(1) on a soft CELL", y.shells(1), 0);
        Check.steps(y, 1);
        due("shells(1) on CELL 4 at 2: back by two steps", y.shells(1), 36);
        OverSands z = Check.bayOf(ROCK + "W21");
        Check.steps(z, 4);
        z.head(0, 1);
        Check.steps(z, 2);
        due("shells(0) on the rock", z.shells(0), NONE);
        OverSands w = Check.bayOf(BARE + "W10");
        w.head(0, 1);
        Check.steps(w, 1);
        w.head(0, 0);
        Check.steps(w, 39);
        due("shells(0) on CELL 1 at 40", w.shells(0), NONE);
    }

    private static void cut() {
        OverSands x = Check.bayOf(TIDE + "W35W35W10");
        due("cut(0) on the shore", x.cut(0), NONE);
        Check.steps(x, 15);
        x.head(0, 1);
        x.step();
        due("cut(0) on CELL 3", x.cut(0), 26);
        Check.steps(x, 3);
        due("walker(0, 4): OVER", x.walker(0, 4), 1);
        due("cut(0): one that is OVER too", x.cut(0), 26);
        Check.steps(x, 11);
        due("cut(0) at 30", x.cut(0), 30);
        due("cut(1)", x.cut(1), NONE);
        due("cut(3)", x.cut(3), OverSands.UNKNOWN);
        due("cut(-1)", x.cut(-1), OverSands.UNKNOWN);
        OverSands y = Check.bayOf(BARE + "W30");
        y.head(0, 1);
        y.step();
        due("cut(0): never", y.cut(0), NONE);
        // CELL 3 lies lowest but it is ahead of CELL 2: only what lies behind, and its own one, counts.
        OverSands z = Check.bayOf("B9750999999" + "05" + "1" + "0" + "W20W31");
        Check.steps(z, 5);
        z.head(0, 1);
        z.step();
        due("walker(0, 2)", z.walker(0, 2), 2);
        due("cut(0): CELL 2 is deep at 11", z.cut(0), 11);
        OverSands w = Check.bayOf("B9359999999" + "05" + "1" + "0" + "W20");
        Check.steps(w, 5);
        w.head(0, 1);
        w.step();
        due("cut(0): CELL 1 behind is deep at 9", w.cut(0), 9);
        OverSands last = Check.bayOf("B0000000000" + "34" + "1" + "0" + "W35W20");
        Check.steps(last, 29);
        last.head(0, 1);
        last.step();
        due("cut(0): CELLS are 6 deep at 40", last.cut(0), 40);
        OverSands not = Check.bayOf("B0000000000" + "35" + "1" + "0" + "W35");
        Check.steps(not, 30);
        not.head(0, 1);
        not.step();
        due("cut(0): CELLS are 5 deep at 40", not.cut(0), NONE);
    }

    private static void judged() {
        OverSands x = Check.bayOf(BARE + "W30W10");
        due("judged(0, 3, 111)", x.judged(0, 3, 111), NONE);
        due("judged(0, 4, 1111): OVER by 2", x.judged(0, 4, 1111), 3);
        due("judged(0, 5, 11110): OVER by 2", x.judged(0, 5, 11110), 3);
        due("judged(0, 8, 0)", x.judged(0, 8, 0), NONE);
        due("judged(0, 8, 22222222)", x.judged(0, 8, 22222222), NONE);
        due("judged(0, 1, 3)", x.judged(0, 1, 3), 0);
        due("judged(0, 1, 9)", x.judged(0, 1, 9), 0);
        due("judged(0, 3, 13)", x.judged(0, 3, 13), 2);
        due("judged(0, 3, 130)", x.judged(0, 3, 130), 1);
        due("judged(0, 8, 99999999)", x.judged(0, 8, 99999999), 0);
        due("judged(0, 8, 11121111): on 3, 6, 9", x.judged(0, 8, 11121111), 3);
        due("judged(0, 8, 12121211): 3, 0, 3, 0, 3, 0, 3, 6", x.judged(0, 8, 12121211), NONE);
        Check.steps(x, 37);
        due("judged(1, 3, 0) at 37", x.judged(1, 3, 0), NONE);
        due("judged(1, 4, 0) at 37", x.judged(1, 4, 0), 3);
        due("judged(1, 8, 11111111) at 37", x.judged(1, 8, 11111111), 3);
        OverSands y = Check.bayOf(ROCK + "W21W21" + "S2T41");
        Check.steps(y, 4);
        y.head(0, 1);
        y.step();
        due("judged(0, 1, 0): STUCK on CELL 2", y.judged(0, 1, 0), 0);
        y.step();
        due("judged(0, 1, 1): DROWNED", y.judged(0, 1, 1), 0);
        due("judged(0, 2, 1): the rock is not left", y.judged(0, 2, 1), NONE);
        y.climb(0);
        due("judged(0, 1, 0): it does not WALK", y.judged(0, 1, 0), 0);
        due("judged(1, 8, 11111111): CELL 2 is 2 deep at 7", y.judged(1, 8, 11111111), 0);
        y.step();
        due("judged(1, 8, 11111111) at 7: it waits on the shore", y.judged(1, 8, 11111111), NONE);
    }

    private static void judgedRefused() {
        OverSands x = Check.bayOf(BARE + "W30");
        due("judged(1, 1, 0)", x.judged(1, 1, 0), OverSands.UNKNOWN);
        due("judged(-1, 9, -1): UNKNOWN is told first", x.judged(-1, 9, -1), OverSands.UNKNOWN);
        due("judged(0, 0, 0)", x.judged(0, 0, 0), OverSands.BAD);
        due("judged(0, 9, 0)", x.judged(0, 9, 0), OverSands.BAD);
        due("judged(0, 1, -1)", x.judged(0, 1, -1), OverSands.BAD);
        due("judged(0, 1, 10)", x.judged(0, 1, 10), OverSands.BAD);
        due("judged(0, 7, 10000000)", x.judged(0, 7, 10000000), OverSands.BAD);
        due("judged(0, 8, 10000000)", x.judged(0, 8, 10000000), NONE);
        due("judged(0, 8, 100000000)", x.judged(0, 8, 100000000), OverSands.BAD);
        due("judged(0, MAX, MAX)", x.judged(0, Integer.MAX_VALUE, Integer.MAX_VALUE), OverSands.BAD);
        due("judged(0, MIN, 0)", x.judged(0, Integer.MIN_VALUE, 0), OverSands.BAD);
    }

    private static void ahead() {
        OverSands x = Check.bayOf(TIDE + "W35W25");
        due("ahead()", x.ahead(), 22);
        due("aheadOf(0)", x.aheadOf(0), 18);
        due("aheadOf(1): the last one of 0 .. 15", x.aheadOf(1), 15);
        due("aheadOf(2)", x.aheadOf(2), OverSands.UNKNOWN);
        due("aheadOf(-1)", x.aheadOf(-1), OverSands.UNKNOWN);
        x.head(0, 1);
        Check.steps(x, 30);
        due("ahead(), whatever there is now", x.ahead(), 22);
        due("aheadOf(0), whatever there is now", x.aheadOf(0), 18);
        OverSands turned = Check.bayOf(TIDE + "W25W35");
        due("ahead(), by other numbers", turned.ahead(), 22);
        due("aheadOf(0), by other numbers", turned.aheadOf(0), 15);
        OverSands last = Check.bayOf("B0333333330" + "40" + "1" + "0" + "W30");
        due("ahead() at the last", last.ahead(), 40);
        due("aheadOf(0) at the last", last.aheadOf(0), 37);
        OverSands one = Check.bayOf(TIDE + "W35");
        due("ahead() of one", one.ahead(), 19);
        due("aheadOf(0) of one", one.aheadOf(0), 15);
        OverSands none = Check.bayOf(TIDE + "W35W25W20");
        due("ahead(): 2 never comes over", none.ahead(), NONE);
        due("aheadOf(0)", none.aheadOf(0), NONE);
        OverSands bare = Check.bayOf(BARE + "W30W20W10");
        due("ahead() on bare sands", bare.ahead(), 9);
        due("aheadOf(0)", bare.aheadOf(0), 6);
        due("aheadOf(1)", bare.aheadOf(1), 4);
        due("aheadOf(2)", bare.aheadOf(2), 0);
        OverSands nobody = new OverSands();
        due("ahead() of nobody", nobody.ahead(), OverSands.LATE);
        due("aheadOf(0) of nobody", nobody.aheadOf(0), OverSands.UNKNOWN);
    }

    private static void saved() {
        due("saved() of nobody", new OverSands().saved(), 0);
        OverSands x = Check.bayOf(ROCK + "W21W21W21W21W20" + "T42");
        due("saved() on the shore", x.saved(), 5);
        Check.steps(x, 4);
        for (int walker = 0; walker < 3; walker++) x.head(walker, 1);
        Check.steps(x, 1);
        x.head(4, 1);
        due("step(): 4 is DROWNED", x.step(), 16);
        due("saved(): two of three on the rock, one on the shore", x.saved(), 3);
        x.climb(2);
        due("saved(): one UP, one more, one on the shore", x.saved(), 3);
        x.climb(0);
        due("saved(): two UP, one on the shore", x.saved(), 3);
        OverSands y = Check.bayOf(ROCK + "W21W21" + "T44");
        Check.steps(y, 4);
        y.head(0, 1);
        y.head(1, 1);
        Check.steps(y, 2);
        due("saved(): the tower holds more than there are", y.saved(), 2);
        OverSands z = Check.bayOf(BARE + "W30W10" + "S1");
        z.head(0, 1);
        z.head(1, 1);
        z.step();
        z.head(1, 0);
        due("step(): 1 is STUCK", z.step(), 2);
        z.step();
        due("saved(): one OVER, one STUCK", z.saved(), 1);
        OverSands w = Check.bayOf(BARE + "W10" + "S1T11");
        w.head(0, 1);
        w.step();
        w.head(0, 0);
        w.step();
        due("saved(): who is STUCK does not go up", w.saved(), 0);
        savedAtTheLast();
    }

    /** At 40 nobody goes any more: but for towers, all that are on the sands are lost. */
    private static void savedAtTheLast() {
        OverSands x = Check.bayOf(BARE + "W10W10W10W10W10" + "T11T81");
        for (int walker = 0; walker < 2; walker++) x.head(walker, 1);
        Check.steps(x, 8);
        for (int walker = 0; walker < 2; walker++) x.head(walker, 0);
        for (int walker = 2; walker < 4; walker++) x.head(walker, 1);
        x.step();
        for (int walker = 2; walker < 4; walker++) x.head(walker, 0);
        due("saved() at 9", x.saved(), 5);
        Check.steps(x, 31);
        due("about(2)", x.about(2), 40);
        due("saved() at 40: one on CELL 8, one on CELL 1, one on the shore", x.saved(), 3);
        x.climb(2);
        due("saved() at 40, with CELL 1 full", x.saved(), 3);
    }

    private static void nothingIsChanged() {
        OverSands x = Check.bayOf(TIDE + "W35W25W20" + "S4T32");
        Check.steps(x, 15);
        x.head(0, 1);
        x.head(1, 1);
        Check.steps(x, 1);
        x.seed(99L);
        String before = Check.seen(x);
        for (int walker = -1; walker <= 3; walker++) {
            x.gone(walker, 3, 20, 1);
            x.gone(walker, 3, 20, 2);
            x.latest(walker);
            x.safest(walker, 0);
            x.safest(walker, 1);
            x.shells(walker);
            x.cut(walker);
            x.judged(walker, 4, 1021);
            x.aheadOf(walker);
            x.wind(walker, 17, 3, 3, true);
        }
        x.ahead();
        x.saved();
        x.channel(3, 4, 2, 3, 4, true);
        x.sticks(3, 4, 2, true);
        CHECK.holds("ways and chances change nothing", before.equals(Check.seen(x)));
    }
}
