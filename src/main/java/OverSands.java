/** Walkers over a bay that is bare for some hours; shared/DOC.md says what every call answers. */
public final class OverSands {
    public static final int UNKNOWN = -1, BAD = -2, LATE = -3, FULL = -4, NONE = -9;

    private static final int CELLS = 10, NEAR = 0, FAR = 9, LAST_STEP = 40, MOST_WATER = 9;
    private static final int MOST_WALKERS = 5, MOST_TOWERS = 2, MOST_SOFT = 8;
    private static final int TEXT_ROOM = 56, MOST_ACTS = 16, SLOTS = 2;
    private static final int STANDING = 0, ON = 1, BACK = 2;
    private static final int WALKS = 0, OVER = 1, DROWNED = 2, STUCK = 3, UP = 4;
    private static final int BY_ON = 1, BY_BACK = 2, BY_UP = 4;
    private static final int TENTHS = 10, MOST_DAYS = 5, MOST_STICKS = 6, MOST_WEEKS = 9;
    private static final int MOST_FIGURES = 8, MOST_FOG = 20, FOG_PARTS = 4, LOWER_BITS = 33;
    private static final long SEED_TIMES = 6364136223846793005L, SEED_MORE = 1442695040888963407L;

    private final Telling text;
    private final Ground ground;
    private final Ground draft;
    private final Moment now;
    private final Acts acts;
    private final Shelf slots;
    private final boolean[] kept;
    private final Trip trip;
    private final Wander wander;
    private long fogSeed;

    public OverSands() {
        text = new Telling();
        ground = new Ground();
        draft = new Ground();
        now = new Moment();
        acts = new Acts();
        slots = new Shelf(SLOTS);
        kept = new boolean[SLOTS];
        trip = new Trip();
        wander = new Wander();
        fogSeed = 0L;
    }

    // ---- the bay

    public int write(int letter) {
        if (letter < 0 || letter > 255) return BAD;
        if (text.length >= TEXT_ROOM) return FULL;
        text.append(letter);
        return text.length;
    }

    public int wipe() {
        int was = text.length;
        text.empty();
        return was;
    }

    public int fault() {
        return text.readInto(draft);
    }

    public int bay() {
        // Read aside first: a text with a fault must leave the old bay as it was.
        if (text.readInto(draft) != NONE) return LATE;
        text.readInto(ground);
        now.clear();
        acts.clear();
        for (int slot = 0; slot < kept.length; slot++) kept[slot] = false;
        return 10 * ground.walkers + ground.towers;
    }

    public int about(int what) {
        switch (what) {
            case 0: return ground.walkers;
            case 1: return ground.towers;
            case 2: return now.time();
            case 3: return waterAt(now.time());
            case 4: return ground.low;
            case 5: return ground.rise;
            case 6: return ground.least;
            case 7: return now.allThat(WALKS, ground.walkers);
            case 8: return now.allThat(OVER, ground.walkers);
            case 9: return now.allThat(DROWNED, ground.walkers);
            case 10: return now.allThat(STUCK, ground.walkers);
            case 11: return now.allThat(UP, ground.walkers);
            case 12: return acts.count;
            case 13: return text.length;
            default: return BAD;
        }
    }

    public int cell(int cell, int what) {
        if (!isCell(cell)) return UNKNOWN;
        switch (what) {
            case 0: return ground.heightOf(cell);
            case 1: return ground.depth(cell, waterAt(now.time()));
            case 2: return ground.isSoft(cell) ? 1 : 0;
            case 3: return ground.holdOf(cell);
            case 4: return upOn(cell);
            default: return BAD;
        }
    }

    public int walker(int walker, int what) {
        if (!isWalker(walker)) return UNKNOWN;
        switch (what) {
            case 0: return ground.paceOf(walker);
            case 1: return ground.wadeOf(walker);
            case 2: return now.cellOf(walker);
            case 3: return now.wayOf(walker);
            case 4: return now.fateOf(walker);
            default: return BAD;
        }
    }

    public int deep(int cell, int step) {
        if (!isCell(cell)) return UNKNOWN;
        if (!isStep(step)) return BAD;
        return ground.depth(cell, waterAt(step));
    }

    // ---- acts

    public int head(int walker, int way) {
        if (!isWalker(walker)) return UNKNOWN;
        if (way < STANDING || way > BACK) return BAD;
        int before = now.wayOf(walker);
        if (!isWalking(walker) || before == way) return LATE;
        acts.remember(now);
        now.setWay(walker, way);
        return before;
    }

    public int step() {
        if (now.time() >= LAST_STEP) return LATE;
        acts.remember(now);
        int lost = 0;
        for (int walker = 0; walker < ground.walkers; walker++) {
            if (isWalking(walker) && moveOne(walker)) lost |= 1 << walker;
        }
        now.setTime(now.time() + 1);
        return lost;
    }

    public int climb(int walker) {
        if (!isWalker(walker)) return UNKNOWN;
        int cell = now.cellOf(walker);
        if (!isWalking(walker) || ground.holdOf(cell) == 0) return LATE;
        if (roomOn(cell) <= 0) return FULL;
        acts.remember(now);
        now.setFate(walker, UP);
        return upOn(cell);
    }

    public int undo() {
        if (acts.count == 0) return LATE;
        acts.takeBack(now);
        return acts.count;
    }

    // ---- ways

    public int gone(int walker, int cell, int step, int way) {
        if (!isWalker(walker) || !isCell(cell)) return UNKNOWN;
        if (way < ON || way > BACK || !isStep(step)) return BAD;
        return arrival(walker, cell, step, way);
    }

    public int latest(int walker) {
        if (!isWalker(walker)) return UNKNOWN;
        for (int start = LAST_STEP; start >= 0; start--) {
            if (arrival(walker, NEAR, start, ON) != NONE) return start;
        }
        return NONE;
    }

    public int safest(int walker, int what) {
        if (!isWalker(walker)) return UNKNOWN;
        if (what < 0 || what > 1) return BAD;
        if (!isWalking(walker)) return LATE;
        int cell = now.cellOf(walker);
        int over = arrival(walker, cell, now.time(), ON);
        int home = arrival(walker, cell, now.time(), BACK);
        int tower = roomOn(cell) > 0 ? now.time() : NONE;
        return what == 0 ? safeBits(over, home, tower) : soonest(over, home, tower);
    }

    public int shells(int walker) {
        if (!isWalker(walker)) return UNKNOWN;
        if (!isWalking(walker)) return LATE;
        int cell = now.cellOf(walker);
        int most = NONE;
        for (int stood = 0; stood <= LAST_STEP - now.time(); stood++) {
            int step = now.time() + stood;
            if (stood > 0 && !outlastsStanding(walker, cell, step - 1)) break;
            if (isSafe(walker, cell, step)) most = stood;
        }
        return most;
    }

    public int cut(int walker) {
        if (!isWalker(walker)) return UNKNOWN;
        for (int step = now.time(); step <= LAST_STEP; step++) {
            int water = waterAt(step);
            for (int cell = now.cellOf(walker); cell > NEAR; cell--) {
                if (ground.depth(cell, water) > ground.wadeOf(walker)) return step;
            }
        }
        return NONE;
    }

    public int judged(int walker, int n, int row) {
        if (!isWalker(walker)) return UNKNOWN;
        if (n < 1 || n > MOST_FIGURES || row < 0 || row >= power(10, n)) return BAD;
        trip.begin(ground, walker, now.cellOf(walker), now.time());
        trip.fate = now.fateOf(walker);
        for (int place = 0; place < n; place++) {
            int figure = figureAt(row, n - 1 - place);
            if (figure > BACK || trip.fate != WALKS || trip.step >= LAST_STEP) return place;
            trip.move(ground, figure);
            if (trip.isLost()) return place;
        }
        return NONE;
    }

    public int ahead() {
        if (ground.walkers == 0) return LATE;
        return meetingStep();
    }

    public int aheadOf(int walker) {
        if (!isWalker(walker)) return UNKNOWN;
        int meeting = meetingStep();
        if (meeting == NONE) return NONE;
        for (int start = LAST_STEP; start >= 0; start--) {
            if (arrival(walker, NEAR, start, ON) == meeting) return start;
        }
        return NONE;
    }

    public int saved() {
        int live = 0;
        int inNeed = 0;
        for (int walker = 0; walker < ground.walkers; walker++) {
            int fate = now.fateOf(walker);
            if (fate == OVER || fate == UP) live++;
            else if (fate == WALKS && isSafe(walker, now.cellOf(walker), now.time())) live++;
            else if (fate == WALKS) inNeed |= 1 << walker;
        }
        for (int cell = NEAR + 1; cell < FAR; cell++) {
            live += Math.min(roomOn(cell), now.countOn(cell, inNeed));
        }
        return live;
    }

    // ---- chances

    public int channel(int c, int d, int a, int b, int n, boolean upper) {
        if (!isOnSands(c) || !isOnSands(d) || !areTenths(a, b) || n < 0 || n > MOST_DAYS) return BAD;
        return told(wander.oddsAt(c, d, a, b, n), power(TENTHS, n), upper);
    }

    public int sticks(int n, int x, int w, boolean upper) {
        if (n < 1 || n > MOST_STICKS || x < 0 || x > TENTHS || w < 0 || w > MOST_WEEKS) return BAD;
        int right = Math.max(0, x - w);
        int odds = 0;
        for (int trueOnes = n / 2 + 1; trueOnes <= n; trueOnes++) {
            odds += choices(n, trueOnes) * power(right, trueOnes) * power(TENTHS - right, n - trueOnes);
        }
        return told(odds, power(TENTHS, n), upper);
    }

    public int wind(int walker, int t, int a, int b, boolean upper) {
        if (!isWalker(walker)) return UNKNOWN;
        if (!isStep(t) || !areTenths(a, b)) return BAD;
        int odds = 0;
        if (isOverByLow(walker, t, Math.max(0, ground.low - 1))) odds += a;
        if (isOverByLow(walker, t, Math.min(LAST_STEP, ground.low + 1))) odds += b;
        if (isOverByLow(walker, t, ground.low)) odds += TENTHS - a - b;
        return told(odds, TENTHS, upper);
    }

    public long seed(long v) {
        long was = fogSeed;
        fogSeed = v;
        return was;
    }

    public int fog(int walker, int t, int m) {
        if (!isWalker(walker)) return UNKNOWN;
        if (!isStep(t) || m < 1 || m > MOST_FOG || t + m > LAST_STEP) return BAD;
        trip.begin(ground, walker, NEAR, t);
        for (int k = 0; k < m && trip.fate == WALKS; k++) trip.move(ground, drawnWay());
        return trip.isLost() ? NONE : trip.cell;
    }

    // ---- slots

    public int keep(int slot) {
        if (!isSlot(slot)) return UNKNOWN;
        slots.put(slot, now);
        kept[slot] = true;
        return now.time();
    }

    public int again(int slot) {
        if (!isSlot(slot)) return UNKNOWN;
        if (!kept[slot]) return LATE;
        slots.take(slot, now);
        acts.clear();
        return now.time();
    }

    // ---- what there is

    private static boolean isCell(int cell) {
        return cell >= NEAR && cell <= FAR;
    }

    private static boolean isOnSands(int cell) {
        return cell > NEAR && cell < FAR;
    }

    private static boolean isStep(int step) {
        return step >= 0 && step <= LAST_STEP;
    }

    private static boolean isSlot(int slot) {
        return slot >= 0 && slot < SLOTS;
    }

    private static boolean areTenths(int a, int b) {
        return a >= 0 && a <= TENTHS && b >= 0 && b <= TENTHS && a + b <= TENTHS;
    }

    private boolean isWalker(int walker) {
        return walker >= 0 && walker < ground.walkers;
    }

    private boolean isWalking(int walker) {
        return now.fateOf(walker) == WALKS;
    }

    private int waterAt(int step) {
        return ground.water(step, ground.low);
    }

    private int upOn(int cell) {
        return now.countOn(cell, now.allThat(UP, ground.walkers));
    }

    private int roomOn(int cell) {
        return ground.holdOf(cell) - upOn(cell);
    }

    // ---- one alone

    /** True: it is lost by that. */
    private boolean moveOne(int walker) {
        trip.begin(ground, walker, now.cellOf(walker), now.time());
        trip.move(ground, now.wayOf(walker));
        now.setCell(walker, trip.cell);
        now.setFate(walker, trip.fate);
        return trip.isLost();
    }

    private int arrival(int walker, int cell, int step, int way) {
        trip.begin(ground, walker, cell, step);
        return trip.goTillThere(ground, way);
    }

    private boolean isSafe(int walker, int cell, int step) {
        return arrival(walker, cell, step, ON) != NONE || arrival(walker, cell, step, BACK) != NONE;
    }

    private boolean outlastsStanding(int walker, int cell, int step) {
        trip.begin(ground, walker, cell, step);
        trip.move(ground, STANDING);
        return !trip.isLost();
    }

    private boolean isOverByLow(int walker, int step, int low) {
        trip.begin(ground, walker, NEAR, step);
        trip.low = low;
        return trip.goTillThere(ground, ON) != NONE;
    }

    private static int safeBits(int over, int home, int tower) {
        int bits = 0;
        if (over != NONE) bits |= BY_ON;
        if (home != NONE) bits |= BY_BACK;
        if (tower != NONE) bits |= BY_UP;
        return bits;
    }

    private static int soonest(int over, int home, int tower) {
        int best = NONE;
        int soon = LAST_STEP + 1;
        if (over != NONE) {
            best = 0;
            soon = over;
        }
        if (home != NONE && home < soon) {
            best = 1;
            soon = home;
        }
        if (tower != NONE && tower < soon) best = 2;
        return best;
    }

    private int drawnWay() {
        fogSeed = fogSeed * SEED_TIMES + SEED_MORE;
        return (fogSeed >>> LOWER_BITS) % FOG_PARTS == 0 ? BACK : ON;
    }

    // ---- all together

    /** The first step at which each can be over, whenever each begins: sets of steps, as bits, cut with one another. */
    private int meetingStep() {
        long common = -1L;
        for (int walker = 0; walker < ground.walkers; walker++) {
            long steps = 0L;
            for (int start = 0; start <= LAST_STEP; start++) {
                int there = arrival(walker, NEAR, start, ON);
                if (there != NONE) steps |= 1L << there;
            }
            common &= steps;
        }
        for (int step = 0; step <= LAST_STEP; step++) {
            if ((common >>> step & 1L) != 0L) return step;
        }
        return NONE;
    }

    // ---- numbers

    private static int power(int base, int n) {
        int product = 1;
        for (int k = 0; k < n; k++) product *= base;
        return product;
    }

    private static int figureAt(int row, int behind) {
        int rest = row;
        for (int k = 0; k < behind; k++) rest /= 10;
        return rest % 10;
    }

    private static int choices(int n, int k) {
        int ways = 1;
        for (int i = 1; i <= k; i++) ways = ways * (n - k + i) / i;
        return ways;
    }

    private static int commonPart(int one, int other) {
        int larger = one;
        int smaller = other;
        // Euclid's way halves the larger every second time: no int needs more than 64.
        for (int k = 0; k < 64 && smaller != 0; k++) {
            int rest = larger % smaller;
            larger = smaller;
            smaller = rest;
        }
        return larger;
    }

    private static int told(int above, int below, boolean upper) {
        int common = commonPart(above, below);
        if (common == 0) return 0;
        return (upper ? above : below) / common;
    }

    /** A BAY as it is told: what no act changes. */
    private static final class Ground {
        private final int[] heights = new int[CELLS];
        private final boolean[] soft = new boolean[CELLS];
        private final int[] holds = new int[CELLS];
        private final int[] paces = new int[MOST_WALKERS];
        private final int[] wades = new int[MOST_WALKERS];
        private int walkers;
        private int towers;
        private int softs;
        private int low;
        private int rise = 1;
        private int least;

        void clear() {
            for (int cell = 0; cell < CELLS; cell++) {
                heights[cell] = 0;
                soft[cell] = false;
                holds[cell] = 0;
            }
            walkers = 0;
            towers = 0;
            softs = 0;
        }

        void setHeight(int cell, int height) {
            if (isCell(cell)) heights[cell] = height;
        }

        void addWalker(int pace, int wade) {
            if (walkers < 0 || walkers >= MOST_WALKERS) return;
            paces[walkers] = pace;
            wades[walkers] = wade;
            walkers++;
        }

        void addTower(int cell, int hold) {
            if (!isCell(cell)) return;
            holds[cell] = hold;
            towers++;
        }

        void addSoft(int cell) {
            if (!isCell(cell)) return;
            soft[cell] = true;
            softs++;
        }

        int heightOf(int cell) {
            return isCell(cell) ? heights[cell] : 0;
        }

        boolean isSoft(int cell) {
            return isCell(cell) && soft[cell];
        }

        int holdOf(int cell) {
            return isCell(cell) ? holds[cell] : 0;
        }

        int paceOf(int walker) {
            return walker >= 0 && walker < MOST_WALKERS ? paces[walker] : 0;
        }

        int wadeOf(int walker) {
            return walker >= 0 && walker < MOST_WALKERS ? wades[walker] : 0;
        }

        /** By a LOW of the caller's: winds bring another one than the told one. */
        int water(int step, int byLow) {
            int away = step < byLow ? byLow - step : step - byLow;
            int water = least + rise * away;
            return water < MOST_WATER ? water : MOST_WATER;
        }

        int depth(int cell, int water) {
            if (cell <= NEAR || cell >= FAR || water <= heights[cell]) return 0;
            return water - heights[cell];
        }
    }

    /** THE TEXT, and how it is read as a BAY. */
    private static final class Telling {
        private static final int END = -1;

        private final int[] letters = new int[TEXT_ROOM];
        private int length;
        private int place;
        private boolean stopped;

        void append(int letter) {
            if (length < 0 || length >= TEXT_ROOM) return;
            letters[length] = letter;
            length++;
        }

        void empty() {
            length = 0;
        }

        /** Fills the ground; where a fault is answered the ground is no good. */
        int readInto(Ground ground) {
            place = 0;
            stopped = false;
            ground.clear();
            readHead(ground);
            for (int part = 0; part < TEXT_ROOM && !stopped && place < length; part++) readPart(ground);
            return stopped ? place : NONE;
        }

        private void readHead(Ground ground) {
            if (letterHere() == 'B') place++;
            else stopped = true;
            for (int cell = NEAR; cell <= FAR; cell++) ground.setHeight(cell, figure(0, 9));
            int tens = figure(0, 4);
            ground.low = 10 * tens + figure(0, tens == 4 ? 0 : 9);
            ground.rise = figure(1, 3);
            ground.least = figure(0, 9);
        }

        private void readPart(Ground ground) {
            int letter = letterHere();
            if (letter == 'W' && ground.walkers < MOST_WALKERS) readWalker(ground);
            else if (letter == 'T' && ground.towers < MOST_TOWERS) readTower(ground);
            else if (letter == 'S' && ground.softs < MOST_SOFT) readSoft(ground);
            else stopped = true;
        }

        private void readWalker(Ground ground) {
            place++;
            int pace = figure(1, 3);
            int wade = figure(0, 5);
            if (!stopped) ground.addWalker(pace, wade);
        }

        private void readTower(Ground ground) {
            place++;
            if (ground.holdOf(letterHere() - '0') > 0) stopped = true;
            int cell = figure(1, 8);
            int hold = figure(1, 4);
            if (!stopped) ground.addTower(cell, hold);
        }

        private void readSoft(Ground ground) {
            place++;
            if (ground.isSoft(letterHere() - '0')) stopped = true;
            int cell = figure(1, 8);
            if (!stopped) ground.addSoft(cell);
        }

        private int letterHere() {
            return place >= 0 && place < length && place < TEXT_ROOM ? letters[place] : END;
        }

        /** The next figure, if it lies so; else the reading stays there, stopped: that place is the fault. */
        private int figure(int fewest, int most) {
            int figure = letterHere() - '0';
            if (figure < fewest || figure > most) stopped = true;
            if (stopped) return fewest;
            place++;
            return figure;
        }
    }

    /** THE STEP, and of each WALKER the CELL, the way and the fate: all that acts change, in one row. */
    private static final class Moment {
        private static final int WIDTH = 1 + 3 * MOST_WALKERS;
        private static final int CELL_PART = 1, WAY_PART = CELL_PART + MOST_WALKERS, FATE_PART = WAY_PART + MOST_WALKERS;

        private final int[] row = new int[WIDTH];

        void clear() {
            for (int k = 0; k < WIDTH; k++) row[k] = 0;
        }

        int time() {
            return row[0];
        }

        void setTime(int step) {
            row[0] = step;
        }

        int cellOf(int walker) {
            return valueOf(CELL_PART, walker);
        }

        void setCell(int walker, int cell) {
            setValue(CELL_PART, walker, cell);
        }

        int wayOf(int walker) {
            return valueOf(WAY_PART, walker);
        }

        void setWay(int walker, int way) {
            setValue(WAY_PART, walker, way);
        }

        int fateOf(int walker) {
            return valueOf(FATE_PART, walker);
        }

        void setFate(int walker, int fate) {
            setValue(FATE_PART, walker, fate);
        }

        /** Of the first so many walkers, as bits. */
        int allThat(int fate, int walkers) {
            int bits = 0;
            for (int walker = 0; walker < walkers && walker < MOST_WALKERS; walker++) {
                if (fateOf(walker) == fate) bits |= 1 << walker;
            }
            return bits;
        }

        /** Of those in the bits. */
        int countOn(int cell, int bits) {
            int count = 0;
            for (int walker = 0; walker < MOST_WALKERS; walker++) {
                if ((bits >> walker & 1) != 0 && cellOf(walker) == cell) count++;
            }
            return count;
        }

        private int valueOf(int part, int walker) {
            return walker >= 0 && walker < MOST_WALKERS ? row[part + walker] : 0;
        }

        private void setValue(int part, int walker, int value) {
            if (walker >= 0 && walker < MOST_WALKERS) row[part + walker] = value;
        }
    }

    /** Room for so many moments, side by side in one array that is made once. */
    private static final class Shelf {
        private final int places;
        private final int[] rows;

        Shelf(int places) {
            this.places = Math.max(0, places);
            this.rows = new int[this.places * Moment.WIDTH];
        }

        void put(int place, Moment moment) {
            if (place < 0 || place >= places) return;
            System.arraycopy(moment.row, 0, rows, place * Moment.WIDTH, Moment.WIDTH);
        }

        void take(int place, Moment moment) {
            if (place < 0 || place >= places) return;
            System.arraycopy(rows, place * Moment.WIDTH, moment.row, 0, Moment.WIDTH);
        }
    }

    /** What was ahead of each ACT; in a ring, so that the first one is forgotten when it is full. */
    private static final class Acts {
        private final Shelf before = new Shelf(MOST_ACTS);
        private int next;
        private int count;

        void clear() {
            next = 0;
            count = 0;
        }

        void remember(Moment moment) {
            before.put(next, moment);
            next = next + 1 < MOST_ACTS ? next + 1 : 0;
            if (count < MOST_ACTS) count++;
        }

        void takeBack(Moment moment) {
            if (count <= 0) return;
            next = next > 0 ? next - 1 : MOST_ACTS - 1;
            count--;
            before.take(next, moment);
        }
    }

    /** One that goes alone; all that go do it by this, for none is in another's way. */
    private static final class Trip {
        private int pace;
        private int wade;
        private int low;
        private int cell;
        private int step;
        private int fate;

        void begin(Ground ground, int walker, int fromCell, int atStep) {
            pace = ground.paceOf(walker);
            wade = ground.wadeOf(walker);
            low = ground.low;
            cell = fromCell;
            step = atStep;
            fate = WALKS;
        }

        boolean isLost() {
            return fate == DROWNED || fate == STUCK;
        }

        void move(Ground ground, int way) {
            int from = cell;
            int water = ground.water(step, low);
            if (way == ON) goAlong(ground, water, 1);
            if (way == BACK) goAlong(ground, water, -1);
            step++;
            if (way == ON && cell == FAR) fate = OVER;
            else if (ground.depth(cell, ground.water(step, low)) > wade) fate = DROWNED;
            else if (cell == from && ground.isSoft(cell)) fate = STUCK;
        }

        /** Goes that way till it is on the shore there: at which step; NONE. */
        int goTillThere(Ground ground, int way) {
            int shore = way == ON ? FAR : NEAR;
            for (int k = 0; k <= LAST_STEP; k++) {
                if (cell == shore) return step;
                if (fate != WALKS || step >= LAST_STEP) return NONE;
                move(ground, way);
            }
            return NONE;
        }

        private void goAlong(Ground ground, int water, int by) {
            int cells = ground.depth(cell, water) > 0 ? (pace + 1) / 2 : pace;
            for (int k = 0; k < cells; k++) {
                int next = cell + by;
                if (next < NEAR || next > FAR || ground.depth(next, water) > wade) return;
                cell = next;
            }
        }
    }

    /** Where the CHANNEL is, by odds; its rows are made once. */
    private static final class Wander {
        private final int[] odds = new int[CELLS];
        private final int[] coming = new int[CELLS];

        /** Of 10 to the power of the days, how many lead from one cell to the other. */
        int oddsAt(int from, int to, int lesser, int greater, int days) {
            if (!isOnSands(from) || !isOnSands(to)) return 0;
            for (int cell = 0; cell < CELLS; cell++) odds[cell] = cell == from ? 1 : 0;
            for (int day = 0; day < days; day++) wanderOn(lesser, greater);
            return odds[to];
        }

        private void wanderOn(int lesser, int greater) {
            for (int cell = 0; cell < CELLS; cell++) coming[cell] = 0;
            for (int cell = NEAR + 1; cell < FAR; cell++) {
                coming[Math.max(NEAR + 1, cell - 1)] += odds[cell] * lesser;
                coming[Math.min(FAR - 1, cell + 1)] += odds[cell] * greater;
                coming[cell] += odds[cell] * (TENTHS - lesser - greater);
            }
            for (int cell = 0; cell < CELLS; cell++) odds[cell] = coming[cell];
        }
    }
}
