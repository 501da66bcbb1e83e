import java.math.BigInteger;

/** The edges of CHANNEL, STICKS, WIND, THE SEED, FOG, and of promises 23 to 27: channel, sticks, wind, seed, fog. */
public final class EdgeChancesTest {
    private static final int BAD = OverSands.BAD, UNKNOWN = OverSands.UNKNOWN, NONE = OverSands.NONE;
    private static final String DRY = "B9999999999" + "00" + "1" + "0";
    private static final String TIDE = "B0000000000" + "20" + "1" + "0";
    private static final Check CHECK = new Check("EdgeChancesTest");

    public static void main(String[] args) {
        channelAtBothEnds();
        channelByDays();
        channelInLeastTerms();
        channelSumsUp();
        channelBad();
        sticksMoreThanHalf();
        sticksLessByWeeks();
        sticksAll();
        sticksBad();
        windSoonerAndLater();
        windLowIs0Least();
        windLowIs40Most();
        windBegins0To40();
        windHoweverItIsNow();
        windUnknown();
        windBad();
        seedTellsWhatItWas();
        seedWraps();
        seedUpper31Bits();
        fogDrawsAheadOfEach();
        fogSteps1To20();
        fogTill40();
        fogEndsOnCell9();
        fogEndsDrowned();
        fogEndsStuck();
        fogUnknown();
        fogBad();
        fogChangesOnlyTheSeed();
        CHECK.end();
    }

    private static Run run(String sentence) {
        return new Run(CHECK, sentence);
    }

    private static Run fraction(Run r, String call, int above, int below) {
        return r.still(call + ", true)", above).still(call + ", false)", below);
    }

    // ---- promise 23

    private static void channelAtBothEnds() {
        Run r = run("at CELLS 1 and 8 what would go farther stays");
        fraction(r, "channel(1, 1, 3, 0, 1", 1, 1);
        fraction(r, "channel(1, 1, 10, 0, 5", 1, 1);
        fraction(r, "channel(8, 8, 0, 10, 5", 1, 1);
        fraction(r, "channel(1, 1, 3, 2, 1", 4, 5);
        fraction(r, "channel(8, 8, 3, 2, 1", 7, 10);
        fraction(r, "channel(2, 2, 3, 2, 1", 1, 2);
        fraction(r, "channel(7, 7, 3, 2, 1", 1, 2);
        fraction(r, "channel(2, 1, 3, 2, 1", 3, 10);
        fraction(r, "channel(7, 8, 3, 2, 1", 1, 5);
        fraction(r, "channel(1, 8, 0, 10, 5", 0, 1);
        fraction(r, "channel(8, 1, 10, 0, 5", 0, 1);
    }

    private static void channelByDays() {
        Run r = run("behind n DAYS (0 .. 5)");
        for (int c = 1; c <= 8; c++) {
            fraction(r, "channel(" + c + ", " + c + ", 4, 5, 0", 1, 1);
            fraction(r, "channel(" + c + ", " + (c == 8 ? 1 : c + 1) + ", 4, 5, 0", 0, 1);
        }
        for (int n = 0; n <= 5; n++) {
            fraction(r, "channel(1, " + (1 + n) + ", 0, 10, " + n, 1, 1);
            fraction(r, "channel(8, " + (8 - n) + ", 10, 0, " + n, 1, 1);
            fraction(r, "channel(1, " + (2 + n) + ", 0, 10, " + n, 0, 1);
            fraction(r, "channel(3, 3, 0, 0, " + n, 1, 1);
        }
        fraction(r, "channel(1, 6, 9, 1, 5", 1, 100000);
        fraction(r, "channel(8, 3, 1, 9, 5", 1, 100000);
    }

    private static void channelInLeastTerms() {
        Run r = run("FRACTIONS are told above (upper = true), below, in least terms");
        fraction(r, "channel(4, 5, 0, 5, 1", 1, 2);
        fraction(r, "channel(4, 4, 1, 1, 1", 4, 5);
        fraction(r, "channel(4, 5, 0, 3, 1", 3, 10);
        fraction(r, "channel(4, 6, 5, 5, 2", 1, 4);
        fraction(r, "channel(4, 5, 5, 5, 2", 0, 1);
        fraction(r, "channel(4, 4, 5, 5, 4", 3, 8);
        fraction(r, "channel(4, 4, 0, 1, 5", 59049, 100000);
        fraction(r, "channel(4, 5, 0, 1, 5", 6561, 20000);
    }

    /** Whatever a and b: the chances of all CELLS are 1 together, and each is in least terms. */
    private static void channelSumsUp() {
        for (int a = 0; a <= 10; a++) for (int b = 0; a + b <= 10; b++) for (int c = 1; c <= 8; c++) {
            OverSands x = new OverSands();
            for (int n = 0; n <= 5; n++) {
                long sum = 0;
                for (int d = 1; d <= 8; d++) {
                    long above = x.channel(c, d, a, b, n, true);
                    long below = x.channel(c, d, a, b, n, false);
                    CHECK.due("in least terms: " + above + " / " + below, BigInteger.valueOf(above).gcd(BigInteger.valueOf(below)).longValue(), 1);
                    sum += above * 100000 / below;
                }
                CHECK.due("all chances of channel(" + c + ", .., " + a + ", " + b + ", " + n + ") together", sum, 100000);
            }
        }
    }

    private static void channelBad() {
        Run r = run("channel: BAD: c, d (1 .. 8), a, b, n").bay(DRY + "W10");
        String[] outside = {"0", "9", "-1", "10", "MIN", "MAX"};
        for (String c : outside) {
            r.still("channel(" + c + ", 1, 0, 0, 0, true)", BAD).still("channel(1, " + c + ", 0, 0, 0, false)", BAD)
                .still("channel(8, " + c + ", 5, 5, 5, true)", BAD);
        }
        for (String a : new String[] {"-1", "11", "MIN", "MAX"}) {
            r.still("channel(4, 4, " + a + ", 0, 1, true)", BAD).still("channel(4, 4, 0, " + a + ", 1, false)", BAD)
                .still("channel(4, 4, " + a + ", " + a + ", 0, true)", BAD);
        }
        r.still("channel(4, 4, 5, 6, 1, true)", BAD).still("channel(4, 4, 10, 1, 1, true)", BAD).still("channel(4, 4, 1, 10, 1, true)", BAD)
            .still("channel(4, 4, 10, 10, 1, true)", BAD);
        r.still("channel(4, 4, 11, -1, 1, true)", BAD).still("channel(4, 4, -1, 11, 1, true)", BAD).still("channel(4, 4, MAX, 1, 1, true)", BAD)
            .still("channel(4, 4, 1, MAX, 1, true)", BAD).still("channel(4, 4, 10, MAX, 1, true)", BAD).still("channel(4, 4, MAX, 10, 1, true)", BAD)
            .still("channel(4, 4, MIN, MAX, 1, true)", BAD);
        for (String n : new String[] {"-1", "6", "MIN", "MAX"}) {
            r.still("channel(4, 4, 2, 3, " + n + ", true)", BAD).still("channel(4, 4, 0, 0, " + n + ", false)", BAD);
        }
        r.still("channel(4, 3, 10, 0, 1, true)", 1).still("channel(4, 5, 0, 10, 1, true)", 1).still("channel(4, 4, 5, 5, 1, true)", 0);
    }

    // ---- promise 24

    private static void sticksMoreThanHalf() {
        Run r = run("most are true (more than half)");
        fraction(r, "sticks(1, 5, 0", 1, 2);
        fraction(r, "sticks(2, 5, 0", 1, 4);
        fraction(r, "sticks(3, 5, 0", 1, 2);
        fraction(r, "sticks(4, 5, 0", 5, 16);
        fraction(r, "sticks(5, 5, 0", 1, 2);
        fraction(r, "sticks(6, 5, 0", 11, 32);
        fraction(r, "sticks(2, 9, 0", 81, 100);
        fraction(r, "sticks(6, 1, 0", 127, 100000);
    }

    private static void sticksLessByWeeks() {
        Run r = run("x tenths less one for each week (0 at least)");
        fraction(r, "sticks(1, 10, 0", 1, 1);
        fraction(r, "sticks(1, 10, 9", 1, 10);
        fraction(r, "sticks(1, 9, 9", 0, 1);
        fraction(r, "sticks(1, 9, 8", 1, 10);
        fraction(r, "sticks(1, 8, 9", 0, 1);
        fraction(r, "sticks(1, 0, 9", 0, 1);
        fraction(r, "sticks(1, 0, 0", 0, 1);
        fraction(r, "sticks(6, 0, 9", 0, 1);
        fraction(r, "sticks(2, 0, 9", 0, 1);
        fraction(r, "sticks(6, 10, 0", 1, 1);
        fraction(r, "sticks(1, 3, 1", 1, 5);
    }

    /** Every n, x and w, by each way in which the sticks may be. */
    private static void sticksAll() {
        for (int n = 1; n <= 6; n++) for (int x = 0; x <= 10; x++) for (int w = 0; w <= 9; w++) {
            int tenths = Math.max(0, x - w);
            long good = 0;
            long all = 0;
            for (int which = 0; which < 1 << n; which++) {
                long odds = 1;
                for (int k = 0; k < n; k++) odds *= (which >> k & 1) == 1 ? tenths : 10 - tenths;
                all += odds;
                if (Integer.bitCount(which) > n - Integer.bitCount(which)) good += odds;
            }
            long common = BigInteger.valueOf(good).gcd(BigInteger.valueOf(all)).longValue();
            OverSands s = new OverSands();
            CHECK.due("sticks(" + n + ", " + x + ", " + w + ", true)", s.sticks(n, x, w, true), good / common);
            CHECK.due("sticks(" + n + ", " + x + ", " + w + ", false)", s.sticks(n, x, w, false), all / common);
        }
    }

    private static void sticksBad() {
        Run r = run("sticks: BAD: n, x, w").bay(DRY + "W10");
        for (String n : new String[] {"0", "7", "-1", "8", "MIN", "MAX"}) {
            r.still("sticks(" + n + ", 5, 0, true)", BAD).still("sticks(" + n + ", 5, 0, false)", BAD);
        }
        for (String x : new String[] {"-1", "11", "MIN", "MAX"}) {
            r.still("sticks(1, " + x + ", 0, true)", BAD).still("sticks(6, " + x + ", 9, false)", BAD);
        }
        for (String w : new String[] {"-1", "10", "MIN", "MAX"}) {
            r.still("sticks(1, 5, " + w + ", true)", BAD).still("sticks(6, 10, " + w + ", false)", BAD);
        }
        r.still("sticks(0, 11, 10, true)", BAD).still("sticks(1, 11, 1, true)", BAD).still("sticks(1, 10, 0, true)", 1)
            .still("sticks(6, 0, 9, true)", 0);
    }

    // ---- promise 25

    private static void windSoonerAndLater() {
        // Its LATEST is 22 by LOW 20: so 21 by 19, 23 by 21.
        Run r = run("LOW comes 1 sooner by a tenths, 1 later by b tenths, else as it is").bay(TIDE + "W35").still("latest(0)", 22);
        fraction(r, "wind(0, 21, 1, 2", 1, 1);
        fraction(r, "wind(0, 22, 1, 2", 9, 10);
        fraction(r, "wind(0, 23, 1, 2", 1, 5);
        fraction(r, "wind(0, 24, 1, 2", 0, 1);
        fraction(r, "wind(0, 22, 10, 0", 0, 1);
        fraction(r, "wind(0, 22, 0, 10", 1, 1);
        fraction(r, "wind(0, 23, 0, 10", 1, 1);
        fraction(r, "wind(0, 23, 10, 0", 0, 1);
        fraction(r, "wind(0, 22, 0, 0", 1, 1);
        fraction(r, "wind(0, 23, 0, 0", 0, 1);
        fraction(r, "wind(0, 22, 5, 5", 1, 2);
        fraction(r, "wind(0, 23, 5, 5", 1, 2);
        r.still("about(4)", 20);
    }

    private static void windLowIs0Least() {
        // By LOW 0 its LATEST is 2; by one sooner it would be 1. By LOW 1 it is 3.
        Run r = run("WIND: LOW is 0 least").bay("B0000000000" + "00" + "1" + "0" + "W35").still("latest(0)", 2);
        fraction(r, "wind(0, 2, 10, 0", 1, 1);
        fraction(r, "wind(0, 3, 10, 0", 0, 1);
        fraction(r, "wind(0, 3, 7, 3", 3, 10);
        fraction(r, "wind(0, 2, 7, 3", 1, 1);
        Run s = run("WIND: LOW 1 comes sooner still").bay("B0000000000" + "01" + "1" + "0" + "W35").still("latest(0)", 3);
        fraction(s, "wind(0, 3, 10, 0", 0, 1);
        fraction(s, "wind(0, 2, 10, 0", 1, 1);
        fraction(s, "wind(0, 4, 0, 1", 1, 10);
    }

    private static void windLowIs40Most() {
        // Bare from 37 on by LOW 40: just over at 40. By LOW 41 it would be bare from 38 on.
        Run r = run("WIND: LOW is 40 most").bay("B0333333330" + "40" + "1" + "0" + "W30").still("latest(0)", 37);
        fraction(r, "wind(0, 37, 0, 10", 1, 1);
        fraction(r, "wind(0, 0, 0, 10", 1, 1);
        fraction(r, "wind(0, 37, 10, 0", 1, 1);
        fraction(r, "wind(0, 37, 3, 3", 1, 1);
        fraction(r, "wind(0, 38, 3, 3", 0, 1);
        Run s = run("WIND: LOW 39 comes later still").bay("B0222222220" + "39" + "1" + "0" + "W30").still("latest(0)", 37);
        fraction(s, "wind(0, 37, 0, 10", 0, 1);
        fraction(s, "wind(0, 37, 0, 4", 3, 5);
    }

    private static void windBegins0To40() {
        Run r = run("one that begins on CELL 0 at STEP t (0 .. 40)").bay(DRY + "W10W30");
        fraction(r, "wind(0, 0, 3, 3", 1, 1);
        fraction(r, "wind(0, 31, 3, 3", 1, 1);
        fraction(r, "wind(0, 32, 3, 3", 0, 1);
        fraction(r, "wind(1, 37, 3, 3", 1, 1);
        fraction(r, "wind(1, 38, 3, 3", 0, 1);
        fraction(r, "wind(1, 40, 10, 0", 0, 1);
    }

    private static void windHoweverItIsNow() {
        Run r = Fates.reached(run("WIND for one, however it is now")).still("latest(0)", 4);
        fraction(r, "wind(0, 4, 1, 2", 9, 10);
        fraction(r, "wind(0, 5, 1, 2", 1, 5);
        fraction(r, "wind(1, 0, 1, 2", 0, 1);
    }

    private static void windUnknown() {
        Run r = run("wind: UNKNOWN is told ahead of BAD").bay(TIDE + "W35W35");
        for (String walker : new String[] {"-1", "2", "5", "MIN", "MAX"}) {
            r.still("wind(" + walker + ", 0, 0, 0, true)", UNKNOWN).still("wind(" + walker + ", 41, 0, 0, true)", UNKNOWN)
                .still("wind(" + walker + ", 0, 11, 0, false)", UNKNOWN).still("wind(" + walker + ", 0, 5, 6, false)", UNKNOWN);
        }
        run("wind: UNKNOWN, nobody").still("wind(0, 0, 0, 0, true)", UNKNOWN).still("wind(0, -1, -1, -1, true)", UNKNOWN);
    }

    private static void windBad() {
        Run r = run("wind: BAD: t, a, b").bay(TIDE + "W35");
        for (String t : new String[] {"-1", "41", "42", "MIN", "MAX"}) {
            r.still("wind(0, " + t + ", 3, 3, true)", BAD).still("wind(0, " + t + ", 0, 0, false)", BAD);
        }
        for (String a : new String[] {"-1", "11", "MIN", "MAX"}) {
            r.still("wind(0, 5, " + a + ", 0, true)", BAD).still("wind(0, 5, 0, " + a + ", false)", BAD)
                .still("wind(0, 5, " + a + ", " + a + ", true)", BAD);
        }
        r.still("wind(0, 5, 5, 6, true)", BAD).still("wind(0, 5, 6, 5, true)", BAD).still("wind(0, 5, 10, 1, true)", BAD)
            .still("wind(0, 5, 11, -1, true)", BAD).still("wind(0, 5, -1, 11, true)", BAD).still("wind(0, 5, MAX, MIN, true)", BAD)
            .still("wind(0, 5, 1, MAX, true)", BAD).still("wind(0, 5, MAX, 1, true)", BAD);
        r.still("wind(0, 0, 5, 5, true)", 1).still("wind(0, 40, 10, 0, true)", 0).still("wind(0, 0, 0, 10, true)", 1);
    }

    // ---- promise 26

    private static void seedTellsWhatItWas() {
        run("THE SEED is v: what it was (0 at first)").does("seed(1)", 0).does("seed(-1)", 1).does("seed(MAX)", -1).does("seed(MIN)", Long.MAX_VALUE)
            .does("seed(0)", Long.MIN_VALUE).does("seed(4294967296)", 0).does("seed(0)", 4294967296L).still("seed(0)", 0);
    }

    /** A seed, the next one, and the CELL that one of PACE 1 comes to by one draw: worked out by another program. */
    private static final long[][] DRAWS = {
        {0, 1442695040888963407L, 1}, {1, 7806831264735756412L, 1}, {2, -4275776585127002199L, 0}, {3, 2088359638719790806L, 1},
        {10, -8702919015481313007L, 1}, {-1, -4921441182957829598L, 0}, {-2, 7161166666904929013L, 1},
        {Long.MAX_VALUE, 4301930853896946210L, 0}, {Long.MIN_VALUE, -7780676995965812401L, 1}, {4294967296L, 6961151790551630159L, 1},
        {-4294967296L, -4075761708773703345L, 0}, {8589934591L, 6115472316367503906L, 1}, {4611686018427387904L, 6054381059316351311L, 1},
    };

    private static void seedWraps() {
        for (long[] draw : DRAWS) {
            run("x times 6364136223846793005 and 1442695040888963407 (64 bits, wrapping)").bay(DRY + "W10").does("seed(" + draw[0] + ")", 0)
                .does("fog(0, 0, 1)", draw[2]).does("seed(0)", draw[1]);
        }
    }

    /** Seeds whose next one lies at the edges of the upper 31 bits. */
    private static final long[][] UPPER = {
        {-7379792620528906219L, 0L, 0}, {4483922187169113968L, 8589934591L, 0}, {-84997745826115563L, 8589934592L, 1},
        {7209797128876675093L, 17179869184L, 1}, {-3942152070130085867L, 25769803776L, 1}, {7921562737567934320L, 34359738367L, 1},
        {3352642804572704789L, 34359738368L, 0}, {6412499349321099120L, Long.MAX_VALUE, 1}, {1843579416325869589L, Long.MIN_VALUE, 0},
        {-2810872687533676688L, -1L, 1}, {3772156578477854741L, -8589934592L, 1}, {334516028079034389L, -34359738368L, 0},
    };

    private static void seedUpper31Bits() {
        for (long[] draw : UPPER) {
            run("of its upper 31 bits what is left by 4: 0: it HEADS back, else on").bay(DRY + "W10").does("seed(" + draw[0] + ")", 0)
                .does("fog(0, 39, 1)", draw[2]).does("seed(0)", draw[1]);
        }
    }

    // ---- promise 27

    private static long after(long seed) {
        return BigInteger.valueOf(seed).multiply(new BigInteger("6364136223846793005")).add(new BigInteger("1442695040888963407")).longValue();
    }

    private static boolean back(long seed) {
        return BigInteger.valueOf(seed).mod(BigInteger.ONE.shiftLeft(64)).shiftRight(33).mod(BigInteger.valueOf(4)).signum() == 0;
    }

    private static long afterSo(long seed, int draws) {
        long x = seed;
        for (int k = 0; k < draws; k++) x = after(x);
        return x;
    }

    /** The least seed, from 0 on, whose first draws are so: o on, b back. */
    private static long seedFor(String draws) {
        for (long seed = 0; seed < 1000000; seed++) {
            long x = seed;
            int k = 0;
            while (k < draws.length()) {
                x = after(x);
                if (back(x) != (draws.charAt(k) == 'b')) break;
                k++;
            }
            if (k == draws.length()) return seed;
        }
        throw new IllegalStateException("no seed for " + draws);
    }

    private static Run drawn(String sentence, String bay, String draws) {
        return run(sentence + " [" + draws + "]").bay(bay).does("seed(" + seedFor(draws) + ")", 0);
    }

    private static void fogDrawsAheadOfEach() {
        String sentence = "FOG: the CELL on which it is at last";
        String[] draws = {"o", "b", "ob", "bo", "bb", "oo", "oob", "obo", "boo", "obb", "oobb", "ooob", "obob", "ooobbb"};
        int[] cell = {1, 0, 0, 1, 0, 2, 1, 1, 2, 0, 0, 2, 0, 0};
        for (int k = 0; k < draws.length; k++) {
            long seed = seedFor(draws[k]);
            int m = draws[k].length();
            drawn(sentence, DRY + "W10", draws[k]).does("fog(0, 7, " + m + ")", cell[k]).does("seed(0)", afterSo(seed, m));
        }
        // Two rows go on from one another.
        long seed = seedFor("ooob");
        drawn("THE SEED goes on", DRY + "W10", "ooob").does("fog(0, 0, 2)", 2).does("fog(0, 0, 1)", 1).does("fog(0, 0, 1)", 0)
            .does("seed(0)", afterSo(seed, 4));
    }

    private static void fogSteps1To20() {
        long seed = 5;
        for (int m = 1; m <= 20; m++) {
            int cell = 0;
            long x = seed;
            int k = 0;
            for (; k < m && cell < 9; k++) {
                x = after(x);
                cell = Math.max(0, cell + (back(x) ? -1 : 1));
            }
            run("FOG: m STEPS (1 .. 20)").bay(DRY + "W10").does("seed(" + seed + ")", 0).does("fog(0, 0, " + m + ")", cell).does("seed(0)", x);
        }
        Run r = run("FOG: m 1 .. 20; BAD").bay(DRY + "W10").does("seed(5)", 0);
        for (String m : new String[] {"0", "21", "-1", "22", "MIN", "MAX"}) r.still("fog(0, 0, " + m + ")", BAD).still("fog(0, 40, " + m + ")", BAD);
    }

    private static void fogTill40() {
        Run r = run("BAD if t and m are more than 40").bay("B0000000000" + "00" + "3" + "9" + "W10").does("seed(5)", 0);
        for (int m = 1; m <= 20; m++) r.still("fog(0, " + (41 - m) + ", " + m + ")", BAD);
        r.still("fog(0, 40, 20)", BAD).still("fog(0, 21, 20)", BAD);
        long seed = 5;
        for (int m = 1; m <= 20; m++) {
            // The water is too deep all the time: it stays on CELL 0, and all is drawn.
            r.does("fog(0, " + (40 - m) + ", " + m + ")", 0);
            seed = afterSo(seed, m);
            r.does("seed(" + seed + ")", seed);
        }
    }

    private static void fogEndsOnCell9() {
        for (int m = 3; m <= 20; m++) {
            long seed = seedFor("ooo");
            drawn("On CELL 9 it ends, nothing more is drawn", DRY + "W30", "ooo").does("fog(0, 0, " + m + ")", 9).does("seed(0)", afterSo(seed, 3));
        }
        drawn("one ahead of CELL 9", DRY + "W30", "ooo").does("fog(0, 0, 2)", 6);
        // Just at STEP 40.
        drawn("On CELL 9 at 40", DRY + "W30", "ooo").does("fog(0, 37, 3)", 9);
    }

    private static void fogEndsDrowned() {
        // CELL 3 at 1, 5 at 2, both by the water that comes; one that wades 1 is DROWNED at 2.
        String bay = "B0000000000" + "00" + "1" + "0" + "W31W30";
        for (int m = 2; m <= 20; m++) {
            long seed = seedFor("oo");
            drawn("DROWNED it ends, nothing more is drawn", bay, "oo").does("fog(0, 0, " + m + ")", NONE).does("seed(0)", afterSo(seed, 2));
            drawn("DROWNED it ends, nothing more is drawn", bay, "oo").does("fog(1, 0, " + m + ")", NONE).does("seed(0)", afterSo(seed, 1));
        }
        drawn("not DROWNED yet", bay, "oo").does("fog(0, 0, 1)", 3);
        drawn("NONE: DROWNED at the last", bay, "oo").does("fog(1, 0, 1)", NONE);
    }

    private static void fogEndsStuck() {
        // CELL 1 is soft, CELL 2 too deep: it goes to CELL 1, then it can not go on; back it can.
        String bay = "B9909999999" + "00" + "3" + "9" + "W10" + "S1";
        for (int m = 2; m <= 20; m++) {
            long seed = seedFor("oo");
            drawn("STUCK it ends, nothing more is drawn", bay, "oo").does("fog(0, 0, " + m + ")", NONE).does("seed(0)", afterSo(seed, 2));
        }
        drawn("not STUCK: it comes to a SOFT one", bay, "oo").does("fog(0, 0, 1)", 1);
        drawn("not STUCK: it goes back", bay, "ob").does("fog(0, 0, 2)", 0);
        drawn("not STUCK: back on the shore", bay, "bb").does("fog(0, 0, 2)", 0);
    }

    private static void fogUnknown() {
        Run r = run("fog: UNKNOWN is told ahead of BAD").bay(DRY + "W10W10").does("seed(8)", 0);
        for (String walker : new String[] {"-1", "2", "5", "MIN", "MAX"}) {
            r.still("fog(" + walker + ", 0, 1)", UNKNOWN).still("fog(" + walker + ", 41, 1)", UNKNOWN).still("fog(" + walker + ", 0, 0)", UNKNOWN)
                .still("fog(" + walker + ", 40, 20)", UNKNOWN);
        }
        run("fog: UNKNOWN, nobody").does("seed(8)", 0).still("fog(0, 0, 1)", UNKNOWN).still("fog(0, -1, 0)", UNKNOWN);
    }

    private static void fogBad() {
        Run r = run("fog: BAD: t, m").bay(DRY + "W10").does("seed(8)", 0);
        for (String t : new String[] {"-1", "41", "40", "-20", "MIN", "MAX"}) {
            r.still("fog(0, " + t + ", 1)", BAD).still("fog(0, " + t + ", 20)", BAD).still("fog(0, " + t + ", MAX)", BAD);
        }
        r.still("fog(0, MAX, MAX)", BAD).still("fog(0, MIN, MIN)", BAD).still("fog(0, -1, 0)", BAD).still("fog(0, 41, 0)", BAD).does("seed(8)", 8);
    }

    private static void fogChangesOnlyTheSeed() {
        // With its SEED put back FOG has changed nothing: so all else that can be seen is as it was.
        OverSands x = Check.bayOf(TIDE + "W35W25" + "S3T52");
        x.head(0, 1);
        x.step();
        x.keep(1);
        x.seed(9L);
        String before = Check.seen(x);
        x.fog(0, 15, 20);
        x.fog(1, 20, 20);
        CHECK.holds("THE SEED changes", x.seed(9L) != 9L);
        CHECK.holds("Nothing changes but THE SEED", before.equals(Check.seen(x)));
        CHECK.due("ACTS stay", x.undo(), 1);
        CHECK.due("what was kept stays", x.again(1), 1);
        // However it is now, it goes from CELL 0.
        long seed = seedFor("ooo");
        Fates.reached(run("FOG: one goes alone from CELL 0, however it is now")).does("seed(" + seed + ")", 0).does("fog(0, 2, 1)", 3)
            .does("seed(" + seed + ")", after(seed)).does("fog(1, 3, 1)", 0).does("seed(" + seed + ")", after(seed)).does("fog(2, 2, 2)", 2)
            .where(2, 1, 3);
    }
}
