import java.math.BigInteger;

/** Promises 23 to 27: channel, sticks, wind, seed, fog. */
public final class ChancesTest {
    private static final String TIDE = "B0000000000" + "20" + "1" + "0";
    private static final String BARE = "B9999999999" + "00" + "1" + "0";
    private static final Check CHECK = new Check("ChancesTest");

    public static void main(String[] args) {
        channel();
        channelRefused();
        sticks();
        sticksRefused();
        wind();
        windAtTheEnds();
        windRefused();
        seed();
        fogDraws();
        fogEnds();
        fogRefused();
        CHECK.end();
    }

    private static void due(String call, long got, long want) {
        CHECK.due(call, got, want);
    }

    private static void channel(int c, int d, int a, int b, int n, int above, int below) {
        OverSands x = new OverSands();
        String call = "channel(" + c + ", " + d + ", " + a + ", " + b + ", " + n;
        due(call + ", true)", x.channel(c, d, a, b, n, true), above);
        due(call + ", false)", x.channel(c, d, a, b, n, false), below);
    }

    private static void channel() {
        channel(4, 4, 2, 3, 0, 1, 1);
        channel(4, 5, 2, 3, 0, 0, 1);
        channel(4, 3, 2, 3, 1, 1, 5);
        channel(4, 5, 2, 3, 1, 3, 10);
        channel(4, 4, 2, 3, 1, 1, 2);
        channel(4, 6, 2, 3, 1, 0, 1);
        channel(1, 1, 4, 3, 1, 7, 10);
        channel(8, 8, 4, 3, 1, 3, 5);
        channel(4, 4, 2, 3, 2, 37, 100);
        channel(8, 8, 4, 3, 2, 12, 25);
        channel(1, 1, 4, 3, 2, 61, 100);
        channel(4, 5, 2, 3, 2, 3, 10);
        channel(1, 6, 0, 10, 5, 1, 1);
        channel(1, 7, 0, 10, 5, 0, 1);
        channel(8, 3, 10, 0, 5, 1, 1);
        channel(8, 3, 1, 0, 5, 1, 100000);
        channel(4, 4, 0, 0, 5, 1, 1);
        channel(1, 1, 10, 0, 5, 1, 1);
        channel(4, 4, 5, 5, 4, 3, 8);
    }

    private static void channelRefused() {
        int[][] calls = {
            {0, 1, 0, 0, 0}, {9, 1, 0, 0, 0}, {1, 0, 0, 0, 0}, {1, 9, 0, 0, 0}, {1, 1, -1, 0, 0}, {1, 1, 11, 0, 0},
            {1, 1, 0, -1, 0}, {1, 1, 0, 11, 0}, {1, 1, 5, 6, 0}, {1, 1, 11, -1, 0}, {1, 1, 0, 0, -1}, {1, 1, 0, 0, 6},
            {1, 1, Integer.MAX_VALUE, Integer.MAX_VALUE, 0}, {1, 1, Integer.MIN_VALUE, Integer.MIN_VALUE, 0},
        };
        for (int[] k : calls) channel(k[0], k[1], k[2], k[3], k[4], OverSands.BAD, OverSands.BAD);
    }

    private static void sticks(int n, int x, int w, int above, int below) {
        OverSands s = new OverSands();
        due("sticks(" + n + ", " + x + ", " + w + ", true)", s.sticks(n, x, w, true), above);
        due("sticks(" + n + ", " + x + ", " + w + ", false)", s.sticks(n, x, w, false), below);
    }

    private static void sticks() {
        sticks(1, 9, 2, 7, 10);
        sticks(1, 10, 0, 1, 1);
        sticks(1, 0, 0, 0, 1);
        sticks(2, 5, 0, 1, 4);
        sticks(2, 10, 5, 1, 4);
        sticks(3, 9, 2, 98, 125);
        sticks(4, 5, 0, 5, 16);
        sticks(5, 9, 0, 12393, 12500);
        sticks(6, 5, 0, 11, 32);
        sticks(6, 10, 0, 1, 1);
        sticks(6, 3, 9, 0, 1);
        sticks(6, 10, 9, 127, 100000);
    }

    private static void sticksRefused() {
        int[][] calls = {{0, 5, 0}, {7, 5, 0}, {1, -1, 0}, {1, 11, 0}, {1, 5, -1}, {1, 5, 10}};
        for (int[] k : calls) sticks(k[0], k[1], k[2], OverSands.BAD, OverSands.BAD);
    }

    private static void wind(String bay, int t, int a, int b, int above, int below) {
        OverSands x = Check.bayOf(bay);
        due("wind(0, " + t + ", " + a + ", " + b + ", true)", x.wind(0, t, a, b, true), above);
        due("wind(0, " + t + ", " + a + ", " + b + ", false)", x.wind(0, t, a, b, false), below);
    }

    private static void wind() {
        // Its latest start is 22; 21 if LOW is sooner, 23 if it is later.
        String bay = TIDE + "W35";
        wind(bay, 0, 3, 4, 1, 1);
        wind(bay, 21, 3, 4, 1, 1);
        wind(bay, 22, 3, 4, 7, 10);
        wind(bay, 22, 4, 3, 3, 5);
        wind(bay, 22, 10, 0, 0, 1);
        wind(bay, 23, 3, 4, 2, 5);
        wind(bay, 23, 0, 10, 1, 1);
        wind(bay, 24, 3, 4, 0, 1);
        wind(bay, 40, 5, 5, 0, 1);
        OverSands x = Check.bayOf(bay);
        x.head(0, 1);
        Check.steps(x, 30);
        due("wind(0, 22, 3, 4, true), whatever there is now", x.wind(0, 22, 3, 4, true), 7);
        due("about(4): LOW stays", x.about(4), 20);
    }

    private static void windAtTheEnds() {
        // LOW 0: its latest start is 2; were LOW sooner than 0, it would be 1.
        String sooner = "B0000000000" + "00" + "1" + "0" + "W35";
        wind(sooner, 2, 10, 0, 1, 1);
        wind(sooner, 3, 10, 0, 0, 1);
        // LOW 40: bare from 37 on, over at 40; were it later than 40, it would be bare from 38 on.
        String later = "B0333333330" + "40" + "1" + "0" + "W30";
        wind(later, 37, 0, 10, 1, 1);
        wind(later, 38, 0, 10, 0, 1);
        // Bare two steps ahead of LOW: by LOW 39 just over, by LOW 40 no more.
        wind("B0222222220" + "40" + "1" + "0" + "W30", 37, 0, 10, 0, 1);
        wind("B0222222220" + "40" + "1" + "0" + "W30", 37, 10, 0, 1, 1);
        wind("B0222222220" + "39" + "1" + "0" + "W30", 37, 0, 10, 0, 1);
        wind("B0222222220" + "39" + "1" + "0" + "W30", 37, 0, 3, 7, 10);
    }

    private static void windRefused() {
        OverSands x = Check.bayOf(TIDE + "W35");
        due("wind(1, 0, 0, 0)", x.wind(1, 0, 0, 0, true), OverSands.UNKNOWN);
        due("wind(-1, 41, 0, 0): UNKNOWN is told first", x.wind(-1, 41, 0, 0, true), OverSands.UNKNOWN);
        int[][] calls = {{-1, 0, 0}, {41, 0, 0}, {0, -1, 0}, {0, 11, 0}, {0, 0, -1}, {0, 0, 11}, {0, 5, 6}, {0, 11, -1}};
        for (int[] k : calls) {
            due("wind(0, " + k[0] + ", " + k[1] + ", " + k[2] + ")", x.wind(0, k[0], k[1], k[2], true), OverSands.BAD);
        }
        due("wind(0, 0, 5, 5)", x.wind(0, 0, 5, 5, true), 1);
    }

    private static void seed() {
        OverSands x = new OverSands();
        due("seed(1)", x.seed(1L), 0L);
        due("seed(MIN)", x.seed(Long.MIN_VALUE), 1L);
        due("seed(MAX)", x.seed(Long.MAX_VALUE), Long.MIN_VALUE);
        due("seed(0)", x.seed(0L), Long.MAX_VALUE);
        due("seed(-1)", x.seed(-1L), 0L);
        due("seed(-1)", x.seed(-1L), -1L);
    }

    private static long after(long seed) {
        BigInteger x = BigInteger.valueOf(seed).multiply(new BigInteger("6364136223846793005"));
        return x.add(new BigInteger("1442695040888963407")).longValue();
    }

    private static boolean back(long seed) {
        BigInteger whole = BigInteger.valueOf(seed).mod(BigInteger.ONE.shiftLeft(64));
        return whole.shiftRight(33).mod(BigInteger.valueOf(4)).signum() == 0;
    }

    /** On bare sands by pace 1: a row of draws, there and back. */
    private static void fogDraws() {
        due("the first draw", after(0L), 1442695040888963407L);
        for (long begin = -60; begin <= 60; begin++) {
            OverSands x = Check.bayOf(BARE + "W10");
            for (int m = 1; m <= 20; m++) {
                long seed = begin * 1234567890123L;
                x.seed(seed);
                int cell = 0;
                for (int k = 0; k < m && cell < 9; k++) {
                    seed = after(seed);
                    cell = Math.max(0, cell + (back(seed) ? -1 : 1));
                }
                due("fog(0, 20, " + m + ") by " + begin, x.fog(0, 20, m), cell);
                due("seed() behind it", x.seed(0L), seed);
            }
        }
    }

    private static void fogEnds() {
        OverSands x = Check.bayOf(TIDE + "W35W30");
        String before = Check.seen(x);
        // Walker 1 wades 0 deep: it goes at 20, and is DROWNED at 21, but for a draw that turns it back.
        long seed = 0L;
        for (int k = 0; k < 30; k++) {
            long next = after(seed);
            x.seed(seed);
            due("fog(1, 20, 5) by " + seed, back(next) ? OverSands.NONE : x.fog(1, 20, 5), OverSands.NONE);
            if (!back(next)) due("nothing more is drawn", x.seed(0L), next);
            seed = next;
        }
        x.seed(0L);
        CHECK.holds("fog changes nothing but THE SEED", before.equals(Check.seen(x)));
        // CELL 1 is soft and CELL 2 too deep: STUCK at the second step, if both draws are on.
        OverSands y = Check.bayOf("B9909999999" + "20" + "1" + "0" + "W10" + "S1");
        for (long s = 0; s < 40; s++) {
            long one = after(s);
            long two = after(one);
            y.seed(s);
            if (back(one) || back(two)) continue;
            due("fog(0, 0, 9) by " + s, y.fog(0, 0, 9), OverSands.NONE);
            due("nothing more is drawn", y.seed(0L), two);
        }
    }

    private static void fogRefused() {
        OverSands x = Check.bayOf(BARE + "W10");
        x.seed(3L);
        due("fog(1, 0, 1)", x.fog(1, 0, 1), OverSands.UNKNOWN);
        due("fog(-1, 41, 1): UNKNOWN is told first", x.fog(-1, 41, 1), OverSands.UNKNOWN);
        int[][] calls = {
            {-1, 1}, {41, 1}, {0, 0}, {0, 21}, {21, 20}, {40, 1}, {0, -1}, {Integer.MAX_VALUE, 20}, {20, Integer.MAX_VALUE},
            {Integer.MIN_VALUE, 5},
        };
        for (int[] k : calls) due("fog(0, " + k[0] + ", " + k[1] + ")", x.fog(0, k[0], k[1]), OverSands.BAD);
        due("what is refused draws nothing", x.seed(3L), 3L);
        CHECK.holds("fog(0, 20, 20) is not refused", x.fog(0, 20, 20) >= 0);
        CHECK.holds("fog(0, 39, 1) is not refused", x.fog(0, 39, 1) >= 0);
        CHECK.holds("it draws", x.seed(3L) != 3L);
    }
}
