/** Counts the answers that are not as due, and ends a test by that. */
final class Check {
    private final String name;
    private int asked;
    private int wrong;

    Check(String name) {
        this.name = name;
    }

    void due(String call, long got, long want) {
        asked++;
        if (got == want) return;
        wrong++;
        if (wrong <= 50) System.out.println(name + ": " + call + " answered " + got + ", due is " + want);
    }

    void holds(String what, boolean so) {
        asked++;
        if (so) return;
        wrong++;
        if (wrong <= 50) System.out.println(name + ": it does not hold that " + what);
    }

    void end() {
        System.out.println(name + ": " + asked + " asked, " + wrong + " wrong");
        if (wrong != 0 || asked == 0) System.exit(1);
    }

    static void tell(OverSands x, String text) {
        x.wipe();
        for (int k = 0; k < text.length(); k++) x.write(text.charAt(k));
    }

    /** A new object whose bay is so told. */
    static OverSands bayOf(String text) {
        OverSands x = new OverSands();
        tell(x, text);
        if (x.bay() < 0) throw new IllegalStateException("no bay: " + text);
        return x;
    }

    static void steps(OverSands x, int n) {
        for (int k = 0; k < n; k++) x.step();
    }

    /** All that can be seen of an object without changing it, to show that a refusal changes nothing. */
    static String seen(OverSands x) {
        StringBuilder all = new StringBuilder();
        for (int what = 0; what <= 13; what++) all.append(x.about(what)).append(' ');
        for (int cell = 0; cell <= 9; cell++) for (int what = 0; what <= 4; what++) all.append(x.cell(cell, what)).append(' ');
        for (int walker = 0; walker <= 4; walker++) for (int what = 0; what <= 4; what++) all.append(x.walker(walker, what)).append(' ');
        long seed = x.seed(0L);
        x.seed(seed);
        return all.append(seed).append(' ').append(x.fault()).toString();
    }
}
