import java.util.Random;

/** Long runs of calls by chance, the same each time, on OverSands and on PlainModel: all answers are alike. */
public final class ModelTest {
    /** The last look asks three at once: so 510 keeps within the 512 calls for which an object is good. */
    private static final int RUNS = 1500, CALLS = 510;
    private static final int[] WILD = {-1, -2, 10, 11, 41, 56, 255, 256, 1000, Integer.MAX_VALUE, Integer.MIN_VALUE, Integer.MAX_VALUE - 1};
    private static final String[] METHODS = {
        "write", "wipe", "fault", "bay", "about", "cell", "walker", "deep", "head", "step", "climb", "undo", "gone", "latest",
        "safest", "shells", "cut", "judged", "ahead", "aheadOf", "saved", "channel", "sticks", "wind", "seed", "fog", "keep", "again",
    };
    private static final Check CHECK = new Check("ModelTest");

    private final Random chance;
    private final OverSands x = new OverSands();
    private final PlainModel m = new PlainModel();
    private String told = "";
    private int calls = 0;
    private final int run;

    private ModelTest(int run) {
        this.run = run;
        chance = new Random(run * 7919L + 17);
    }

    public static void main(String[] args) {
        for (int run = 0; run < RUNS; run++) new ModelTest(run).runOnce();
        CHECK.end();
    }

    private void due(String call, long got, long want) {
        CHECK.due("run " + run + ", call " + calls + ", bay " + told + ": " + call, got, want);
        calls++;
    }

    private void runOnce() {
        if (chance.nextInt(10) > 0) tellBay();
        while (calls < CALLS - 60) {
            int kind = chance.nextInt(100);
            if (kind == 0) tellBay();
            else if (kind < 45) walkOn();
            else call(METHODS[chance.nextInt(METHODS.length)]);
        }
        while (calls < CALLS) look();
    }

    private void tellBay() {
        due("wipe()", x.wipe(), m.wipe());
        StringBuilder text = new StringBuilder(bayText());
        if (chance.nextInt(4) == 0 && text.length() > 0) spoil(text);
        for (int k = 0; k < text.length(); k++) due("write", x.write(text.charAt(k)), m.write(text.charAt(k)));
        if (chance.nextInt(3) == 0) due("fault() of " + text, x.fault(), m.fault());
        told = text.toString();
        due("bay() of " + text, x.bay(), m.bay());
    }

    private String bayText() {
        StringBuilder text = new StringBuilder("B");
        int base = chance.nextInt(10);
        for (int cell = 0; cell <= 9; cell++) text.append(Math.max(0, Math.min(9, base + chance.nextInt(5) - 2)));
        int low = chance.nextInt(5) == 0 ? chance.nextInt(41) : 4 + chance.nextInt(14);
        text.append(low / 10).append(low % 10);
        text.append(chance.nextInt(3) == 0 ? 1 + chance.nextInt(3) : 1);
        text.append(chance.nextInt(3) == 0 ? chance.nextInt(10) : chance.nextInt(3));
        int parts = chance.nextInt(9) + 1;
        for (int k = 0; k < parts; k++) {
            int kind = chance.nextInt(6);
            if (kind < 3) text.append('W').append(1 + chance.nextInt(3)).append(chance.nextInt(6));
            else if (kind == 3) text.append('T').append(1 + chance.nextInt(8)).append(1 + chance.nextInt(4));
            else text.append('S').append(1 + chance.nextInt(8));
        }
        return text.toString();
    }

    private void spoil(StringBuilder text) {
        int place = chance.nextInt(text.length());
        String signs = "BWTS0123456789:/bw";
        int kind = chance.nextInt(3);
        if (kind == 0) text.setLength(place);
        else if (kind == 1) text.setCharAt(place, signs.charAt(chance.nextInt(signs.length())));
        else text.append(signs.charAt(chance.nextInt(signs.length())));
    }

    private void walkOn() {
        int walker = chance.nextInt(5);
        int kind = chance.nextInt(10);
        if (kind < 3) {
            int way = chance.nextInt(4) > 0 ? 1 : chance.nextInt(3);
            due("head(" + walker + ", " + way + ")", x.head(walker, way), m.head(walker, way));
        } else if (kind < 7) due("step()", x.step(), m.step());
        else if (kind == 7) due("climb(" + walker + ")", x.climb(walker), m.climb(walker));
        else if (kind == 8) due("undo()", x.undo(), m.undo());
        else due("saved()", x.saved(), m.saved());
    }

    private void look() {
        int walker = chance.nextInt(5);
        int cell = chance.nextInt(10);
        int what = chance.nextInt(5);
        int about = chance.nextInt(14);
        due("about(" + about + ")", x.about(about), m.about(about));
        due("walker(" + walker + ", " + what + ")", x.walker(walker, what), m.walker(walker, what));
        due("cell(" + cell + ", " + what + ")", x.cell(cell, what), m.cell(cell, what));
    }

    /** Mostly within, at times outside. */
    private int pick(int least, int most) {
        if (chance.nextInt(25) == 0) return WILD[chance.nextInt(WILD.length)];
        if (chance.nextInt(25) == 0) return chance.nextBoolean() ? least - 1 : most + 1;
        return least + chance.nextInt(most - least + 1);
    }

    private int anyRow(int n) {
        if (chance.nextInt(12) == 0) return WILD[chance.nextInt(WILD.length)];
        int row = 0;
        int figures = chance.nextInt(10) == 0 ? n + 1 : n;
        for (int k = 0; k < figures && k < 9; k++) row = 10 * row + (chance.nextInt(20) == 0 ? chance.nextInt(10) : chance.nextInt(3));
        return row;
    }

    private void call(String name) {
        int w = pick(0, 4);
        int a = pick(0, 10);
        int b = pick(0, Math.max(0, Math.min(10, 10 - Math.max(0, Math.min(10, a)))));
        boolean upper = chance.nextBoolean();
        switch (name) {
            case "write" -> { int v = pick(0, 255); due("write(" + v + ")", x.write(v), m.write(v)); }
            case "wipe" -> due("wipe()", x.wipe(), m.wipe());
            case "fault" -> due("fault()", x.fault(), m.fault());
            case "bay" -> due("bay()", x.bay(), m.bay());
            case "about" -> { int v = pick(0, 13); due("about(" + v + ")", x.about(v), m.about(v)); }
            case "cell" -> { int c = pick(0, 9), v = pick(0, 4); due("cell(" + c + ", " + v + ")", x.cell(c, v), m.cell(c, v)); }
            case "walker" -> { int v = pick(0, 4); due("walker(" + w + ", " + v + ")", x.walker(w, v), m.walker(w, v)); }
            case "deep" -> { int c = pick(0, 9), s = pick(0, 40); due("deep(" + c + ", " + s + ")", x.deep(c, s), m.deep(c, s)); }
            case "head" -> { int v = pick(0, 2); due("head(" + w + ", " + v + ")", x.head(w, v), m.head(w, v)); }
            case "step" -> due("step()", x.step(), m.step());
            case "climb" -> due("climb(" + w + ")", x.climb(w), m.climb(w));
            case "undo" -> due("undo()", x.undo(), m.undo());
            case "gone" -> {
                int c = pick(0, 9), s = pick(0, 40), v = pick(1, 2);
                due("gone(" + w + ", " + c + ", " + s + ", " + v + ")", x.gone(w, c, s, v), m.gone(w, c, s, v));
            }
            case "latest" -> due("latest(" + w + ")", x.latest(w), m.latest(w));
            case "safest" -> { int v = pick(0, 1); due("safest(" + w + ", " + v + ")", x.safest(w, v), m.safest(w, v)); }
            case "shells" -> due("shells(" + w + ")", x.shells(w), m.shells(w));
            case "cut" -> due("cut(" + w + ")", x.cut(w), m.cut(w));
            case "judged" -> {
                int n = pick(1, 8), row = anyRow(n);
                due("judged(" + w + ", " + n + ", " + row + ")", x.judged(w, n, row), m.judged(w, n, row));
            }
            // The model tries out all starts for all steps: seldom is enough.
            case "ahead" -> { if (chance.nextInt(4) == 0) due("ahead()", x.ahead(), m.ahead()); else look(); }
            case "aheadOf" -> { if (chance.nextInt(4) == 0) due("aheadOf(" + w + ")", x.aheadOf(w), m.aheadOf(w)); else look(); }
            case "saved" -> due("saved()", x.saved(), m.saved());
            case "channel" -> {
                int c = pick(1, 8), d = pick(1, 8), n = pick(0, 5);
                due("channel(" + c + ", " + d + ", " + a + ", " + b + ", " + n + ", " + upper + ")", x.channel(c, d, a, b, n, upper), m.channel(c, d, a, b, n, upper));
            }
            case "sticks" -> {
                int n = pick(1, 6), v = pick(0, 10), k = pick(0, 9);
                due("sticks(" + n + ", " + v + ", " + k + ", " + upper + ")", x.sticks(n, v, k, upper), m.sticks(n, v, k, upper));
            }
            case "wind" -> {
                int t = pick(0, 40);
                due("wind(" + w + ", " + t + ", " + a + ", " + b + ", " + upper + ")", x.wind(w, t, a, b, upper), m.wind(w, t, a, b, upper));
            }
            case "seed" -> { long v = chance.nextLong(); due("seed(" + v + ")", x.seed(v), m.seed(v)); }
            case "fog" -> { int t = pick(0, 25), k = pick(1, 20); due("fog(" + w + ", " + t + ", " + k + ")", x.fog(w, t, k), m.fog(w, t, k)); }
            case "keep" -> { int s = pick(0, 1); due("keep(" + s + ")", x.keep(s), m.keep(s)); }
            case "again" -> { int s = pick(0, 1); due("again(" + s + ")", x.again(s), m.again(s)); }
            default -> throw new IllegalStateException(name);
        }
    }
}
