import java.math.BigInteger;
import java.util.ArrayDeque;
import java.util.ArrayList;
import java.util.HashSet;
import java.util.List;
import java.util.Set;
import java.util.function.IntPredicate;
import java.util.regex.Matcher;
import java.util.regex.Pattern;
import java.util.stream.IntStream;

/** The document once more, in another way and without thrift, for OverSands to be held against. */
final class PlainModel {
    private static final int UNKNOWN = -1, BAD = -2, LATE = -3, FULL = -4, NONE = -9;
    private static final Pattern BAY = Pattern.compile("B[0-9]{10}([0-3][0-9]|40)[1-3][0-9](W[1-3][0-5]|T[1-8][1-4]|S[1-8])*");

    private enum Fate { WALKS, OVER, DROWNED, STUCK, UP }

    private record One(int cell, int way, Fate fate) { }

    private record State(int step, List<One> ones) { }

    private String text = "";
    private String bay = "B0000000000" + "00" + "1" + "0";
    private List<String> parts = List.of();
    private State state = new State(0, List.of());
    private final ArrayDeque<State> acts = new ArrayDeque<>();
    private final State[] slots = new State[2];
    private long seed = 0L;

    // ---- the bay

    int write(int letter) {
        if (letter < 0 || letter > 255) return BAD;
        if (text.length() == 56) return FULL;
        text += (char) letter;
        return text.length();
    }

    int wipe() {
        int was = text.length();
        text = "";
        return was;
    }

    int fault() {
        for (int k = 0; k < text.length(); k++) if (!canBecomeBay(text.substring(0, k + 1))) return k;
        return isBay(text) ? NONE : text.length();
    }

    private static boolean isBay(String told) {
        return BAY.matcher(told).matches() && countsHold(told);
    }

    /** Tried out: some ending of up to fifteen signs makes it one, or one of two signs behind a whole head. */
    private static boolean canBecomeBay(String told) {
        if (told.length() < 15) {
            String[] heads = {"B0000000000" + "0010", "B0000000000" + "4010"};
            for (String head : heads) if (isBay(told + head.substring(told.length()))) return true;
            return false;
        }
        if (isBay(told)) return true;
        for (char a = '0'; a <= '9'; a++) {
            if (isBay(told + a)) return true;
            for (char b = '0'; b <= '9'; b++) if (isBay(told + a + b)) return true;
        }
        return false;
    }

    private static boolean countsHold(String told) {
        Set<String> softs = new HashSet<>();
        Set<Character> towers = new HashSet<>();
        int walkers = 0;
        for (String part : parts(told)) {
            if (part.charAt(0) == 'W' && ++walkers > 5) return false;
            if (part.charAt(0) == 'T' && (!towers.add(part.charAt(1)) || towers.size() > 2)) return false;
            if (part.charAt(0) == 'S' && !softs.add(part)) return false;
        }
        return true;
    }

    private static List<String> parts(String told) {
        List<String> all = new ArrayList<>();
        Matcher m = Pattern.compile("[A-Z][0-9]+").matcher(told.substring(15));
        while (m.find()) all.add(m.group());
        return all;
    }

    private List<String> parts(char kind) {
        return parts.stream().filter(p -> p.charAt(0) == kind).toList();
    }

    int bay() {
        if (fault() != NONE) return LATE;
        bay = text;
        parts = parts(bay);
        List<One> ones = new ArrayList<>();
        for (int k = 0; k < walkers(); k++) ones.add(new One(0, 0, Fate.WALKS));
        state = new State(0, ones);
        acts.clear();
        slots[0] = null;
        slots[1] = null;
        return 10 * walkers() + parts('T').size();
    }

    private int walkers() {
        return parts('W').size();
    }

    private boolean known(int walker) {
        return walker >= 0 && walker < walkers();
    }

    private int low() {
        return Integer.parseInt(bay.substring(11, 13));
    }

    private int figure(int place) {
        return bay.charAt(place) - '0';
    }

    private int water(int step, int low) {
        int water = figure(14);
        for (int k = Math.min(step, low); k < Math.max(step, low); k++) water = Math.min(9, water + figure(13));
        return water;
    }

    private int depth(int cell, int step, int low) {
        return cell == 0 || cell == 9 ? 0 : Math.max(0, water(step, low) - figure(1 + cell));
    }

    private boolean soft(int cell) {
        return parts('S').contains("S" + cell);
    }

    private int hold(int cell) {
        for (String t : parts('T')) if (t.charAt(1) - '0' == cell) return t.charAt(2) - '0';
        return 0;
    }

    private int pace(int walker) {
        return parts('W').get(walker).charAt(1) - '0';
    }

    private int wade(int walker) {
        return parts('W').get(walker).charAt(2) - '0';
    }

    private int bits(Fate fate) {
        int bits = 0;
        for (int k = 0; k < walkers(); k++) if (state.ones.get(k).fate == fate) bits += 1 << k;
        return bits;
    }

    private int up(int cell) {
        return (int) state.ones.stream().filter(o -> o.fate == Fate.UP && o.cell == cell).count();
    }

    int about(int what) {
        if (what < 0 || what > 13) return BAD;
        int[] all = {walkers(), parts('T').size(), state.step, water(state.step, low()), low(), figure(13), figure(14),
            bits(Fate.WALKS), bits(Fate.OVER), bits(Fate.DROWNED), bits(Fate.STUCK), bits(Fate.UP), acts.size(), text.length()};
        return all[what];
    }

    int cell(int cell, int what) {
        if (cell < 0 || cell > 9) return UNKNOWN;
        if (what < 0 || what > 4) return BAD;
        int[] all = {figure(1 + cell), depth(cell, state.step, low()), soft(cell) ? 1 : 0, hold(cell), up(cell)};
        return all[what];
    }

    int walker(int walker, int what) {
        if (!known(walker)) return UNKNOWN;
        if (what < 0 || what > 4) return BAD;
        One one = state.ones.get(walker);
        int[] all = {pace(walker), wade(walker), one.cell, one.way, one.fate.ordinal()};
        return all[what];
    }

    int deep(int cell, int step) {
        if (cell < 0 || cell > 9) return UNKNOWN;
        if (step < 0 || step > 40) return BAD;
        return depth(cell, step, low());
    }

    // ---- acts

    private void act(State next) {
        acts.addLast(state);
        if (acts.size() > 16) acts.removeFirst();
        state = next;
    }

    private State with(int walker, One one, int step) {
        List<One> ones = new ArrayList<>(state.ones);
        ones.set(walker, one);
        return new State(step, ones);
    }

    int head(int walker, int way) {
        if (!known(walker)) return UNKNOWN;
        if (way < 0 || way > 2) return BAD;
        One one = state.ones.get(walker);
        if (one.fate != Fate.WALKS || one.way == way) return LATE;
        act(with(walker, new One(one.cell, way, one.fate), state.step));
        return one.way;
    }

    /** One that walks, after a step alone. */
    private One after(int walker, One one, int step, int low) {
        int left = pace(walker);
        if (depth(one.cell, step, low) > 0) left -= left / 2;
        int cell = one.cell;
        int toward = one.way == 1 ? cell + left : one.way == 2 ? cell - left : cell;
        toward = Math.max(0, Math.min(9, toward));
        while (cell != toward) {
            int next = cell + Integer.signum(toward - cell);
            if (depth(next, step, low) > wade(walker)) break;
            cell = next;
        }
        Fate fate = Fate.WALKS;
        if (cell == 9 && one.way == 1) fate = Fate.OVER;
        else if (depth(cell, step + 1, low) > wade(walker)) fate = Fate.DROWNED;
        else if (cell == one.cell && soft(cell)) fate = Fate.STUCK;
        return new One(cell, one.way, fate);
    }

    int step() {
        if (state.step == 40) return LATE;
        int before = bits(Fate.DROWNED) + bits(Fate.STUCK);
        List<One> ones = new ArrayList<>();
        for (int k = 0; k < walkers(); k++) {
            One one = state.ones.get(k);
            ones.add(one.fate == Fate.WALKS ? after(k, one, state.step, low()) : one);
        }
        act(new State(state.step + 1, ones));
        return bits(Fate.DROWNED) + bits(Fate.STUCK) - before;
    }

    int climb(int walker) {
        if (!known(walker)) return UNKNOWN;
        One one = state.ones.get(walker);
        if (one.fate != Fate.WALKS || hold(one.cell) == 0) return LATE;
        if (up(one.cell) == hold(one.cell)) return FULL;
        act(with(walker, new One(one.cell, one.way, Fate.UP), state.step));
        return up(one.cell);
    }

    int undo() {
        if (acts.isEmpty()) return LATE;
        state = acts.removeLast();
        return acts.size();
    }

    // ---- ways

    private int comes(int walker, One one, int step, int low) {
        if (one.cell == (one.way == 1 ? 9 : 0)) return step;
        if (one.fate != Fate.WALKS || step == 40) return NONE;
        return comes(walker, after(walker, one, step, low), step + 1, low);
    }

    private int comes(int walker, int cell, int step, int way) {
        return comes(walker, new One(cell, way, Fate.WALKS), step, low());
    }

    int gone(int walker, int cell, int step, int way) {
        if (!known(walker) || cell < 0 || cell > 9) return UNKNOWN;
        if (way != 1 && way != 2 || step < 0 || step > 40) return BAD;
        return comes(walker, cell, step, way);
    }

    private static int last(IntPredicate good) {
        return IntStream.rangeClosed(0, 40).filter(good).max().orElse(NONE);
    }

    int latest(int walker) {
        if (!known(walker)) return UNKNOWN;
        return last(start -> comes(walker, 0, start, 1) != NONE);
    }

    int safest(int walker, int what) {
        if (!known(walker)) return UNKNOWN;
        if (what != 0 && what != 1) return BAD;
        One one = state.ones.get(walker);
        if (one.fate != Fate.WALKS) return LATE;
        int[] at = {comes(walker, one.cell, state.step, 1), comes(walker, one.cell, state.step, 2),
            up(one.cell) < hold(one.cell) ? state.step : NONE};
        int bits = 0;
        int best = NONE;
        for (int k = 2; k >= 0; k--) {
            if (at[k] == NONE) continue;
            bits += 1 << k;
            if (best == NONE || at[k] <= at[best]) best = k;
        }
        return what == 0 ? bits : best;
    }

    private boolean safe(int walker, int cell, int step) {
        return comes(walker, cell, step, 1) != NONE || comes(walker, cell, step, 2) != NONE;
    }

    int shells(int walker) {
        if (!known(walker)) return UNKNOWN;
        One one = state.ones.get(walker);
        if (one.fate != Fate.WALKS) return LATE;
        return last(stood -> state.step + stood <= 40 && stands(walker, one.cell, stood) && safe(walker, one.cell, state.step + stood));
    }

    private boolean stands(int walker, int cell, int steps) {
        if (steps > 0 && soft(cell)) return false;
        return IntStream.rangeClosed(1, steps).allMatch(k -> depth(cell, state.step + k, low()) <= wade(walker));
    }

    int cut(int walker) {
        if (!known(walker)) return UNKNOWN;
        int cell = state.ones.get(walker).cell;
        return IntStream.rangeClosed(state.step, 40)
            .filter(s -> IntStream.rangeClosed(0, cell).anyMatch(c -> depth(c, s, low()) > wade(walker)))
            .min().orElse(NONE);
    }

    int judged(int walker, int n, int row) {
        if (!known(walker)) return UNKNOWN;
        if (n < 1 || n > 8 || row < 0 || String.valueOf(row).length() > n) return BAD;
        String figures = "0".repeat(n - String.valueOf(row).length()) + row;
        One one = state.ones.get(walker);
        for (int k = 0; k < n; k++) {
            int way = figures.charAt(k) - '0';
            if (one.fate != Fate.WALKS || state.step + k == 40 || way > 2) return k;
            one = after(walker, new One(one.cell, way, one.fate), state.step + k, low());
            if (one.fate == Fate.DROWNED || one.fate == Fate.STUCK) return k;
        }
        return NONE;
    }

    private int startFor(int walker, int over) {
        return last(start -> comes(walker, 0, start, 1) == over);
    }

    private int together() {
        for (int over = 0; over <= 40; over++) {
            int then = over;
            if (IntStream.range(0, walkers()).allMatch(w -> startFor(w, then) != NONE)) return over;
        }
        return NONE;
    }

    int ahead() {
        return walkers() == 0 ? LATE : together();
    }

    int aheadOf(int walker) {
        if (!known(walker)) return UNKNOWN;
        int over = together();
        return over == NONE ? NONE : startFor(walker, over);
    }

    /** Every choice of who goes up is tried. */
    int saved() {
        int most = 0;
        for (int choice = 0; choice < 1 << walkers(); choice++) {
            int[] load = new int[10];
            int live = 0;
            boolean can = true;
            for (int k = 0; k < walkers(); k++) {
                One one = state.ones.get(k);
                boolean goesUp = (choice >> k & 1) == 1;
                if (goesUp) {
                    load[one.cell]++;
                    can &= one.fate == Fate.WALKS && up(one.cell) + load[one.cell] <= hold(one.cell);
                }
                boolean there = one.fate == Fate.OVER || one.fate == Fate.UP;
                if (goesUp || there || one.fate == Fate.WALKS && safe(k, one.cell, state.step)) live++;
            }
            if (can) most = Math.max(most, live);
        }
        return most;
    }

    // ---- chances

    private static int told(long above, long below, boolean upper) {
        long common = BigInteger.valueOf(above).gcd(BigInteger.valueOf(below)).longValue();
        return (int) ((upper ? above : below) / common);
    }

    private static boolean tenths(int a, int b) {
        return a >= 0 && b >= 0 && (long) a + b <= 10;
    }

    private static long wanders(int c, int d, int a, int b, int n) {
        if (n == 0) return c == d ? 1 : 0;
        return a * wanders(Math.max(1, c - 1), d, a, b, n - 1) + b * wanders(Math.min(8, c + 1), d, a, b, n - 1)
            + (10 - a - b) * wanders(c, d, a, b, n - 1);
    }

    int channel(int c, int d, int a, int b, int n, boolean upper) {
        if (c < 1 || c > 8 || d < 1 || d > 8 || !tenths(a, b) || n < 0 || n > 5) return BAD;
        return told(wanders(c, d, a, b, n), (long) Math.pow(10, n), upper);
    }

    int sticks(int n, int x, int w, boolean upper) {
        if (n < 1 || n > 6 || x < 0 || x > 10 || w < 0 || w > 9) return BAD;
        int p = x > w ? x - w : 0;
        long odds = 0;
        for (int set = 0; set < 1 << n; set++) {
            long one = 1;
            for (int k = 0; k < n; k++) one *= (set >> k & 1) == 1 ? p : 10 - p;
            if (2 * Integer.bitCount(set) > n) odds += one;
        }
        return told(odds, (long) Math.pow(10, n), upper);
    }

    int wind(int walker, int t, int a, int b, boolean upper) {
        if (!known(walker)) return UNKNOWN;
        if (t < 0 || t > 40 || !tenths(a, b)) return BAD;
        int[] lows = {low() == 0 ? 0 : low() - 1, low(), low() == 40 ? 40 : low() + 1};
        int[] odds = {a, 10 - a - b, b};
        int all = 0;
        for (int k = 0; k < 3; k++) if (comes(walker, new One(0, 1, Fate.WALKS), t, lows[k]) != NONE) all += odds[k];
        return told(all, 10, upper);
    }

    long seed(long v) {
        long was = seed;
        seed = v;
        return was;
    }

    int fog(int walker, int t, int m) {
        if (!known(walker)) return UNKNOWN;
        if (t < 0 || t > 40 || m < 1 || m > 20 || t + m > 40) return BAD;
        One one = new One(0, 0, Fate.WALKS);
        for (int k = 0; k < m; k++) {
            BigInteger x = BigInteger.valueOf(seed).multiply(new BigInteger("6364136223846793005"));
            x = x.add(new BigInteger("1442695040888963407")).mod(BigInteger.ONE.shiftLeft(64));
            seed = x.longValue();
            boolean back = x.shiftRight(33).mod(BigInteger.valueOf(4)).intValue() == 0;
            one = after(walker, new One(one.cell, back ? 2 : 1, Fate.WALKS), t + k, low());
            if (one.fate == Fate.DROWNED || one.fate == Fate.STUCK) return NONE;
            if (one.cell == 9) return 9;
        }
        return one.cell;
    }

    // ---- slots

    int keep(int slot) {
        if (slot != 0 && slot != 1) return UNKNOWN;
        slots[slot] = state;
        return state.step;
    }

    int again(int slot) {
        if (slot != 0 && slot != 1) return UNKNOWN;
        if (slots[slot] == null) return LATE;
        state = slots[slot];
        acts.clear();
        return state.step;
    }
}
