import java.lang.reflect.Method;
import java.util.ArrayList;
import java.util.HashMap;
import java.util.List;
import java.util.Map;

/**
 * One run of calls on a new object, told as texts such as "head(0, 1)", each with the answer that is due, for one sentence
 * of the document. Of a call that is to change nothing two twins are made, one with it and one without, and both are
 * asked for all that can be seen of them, what was kept and every ACT too.
 */
final class Run {
    /** What later calls answer is free. */
    private static final int MOST_CALLS = 512;
    private static final Map<String, Call> PARSED = new HashMap<>();
    private static final List<List<String>> LOOKS = List.of(everything(), actsBack(), slots(), goingOn(), madeAnew(), drawing());

    private final Check check;
    private final String sentence;
    private final OverSands x = new OverSands();
    private final List<String> done = new ArrayList<>();
    private int calls;

    Run(Check check, String sentence) {
        this.check = check;
        this.sentence = sentence;
    }

    /** A call that may change something. */
    Run does(String call, long want) {
        asked(call, want);
        done.add(call);
        return this;
    }

    /** A call that changes nothing: one that is refused, or that only asks. */
    Run still(String call, long want) {
        asked(call, want);
        for (List<String> look : LOOKS) {
            List<Long> without = seenBy(null, look);
            List<Long> with = seenBy(call, look);
            for (int k = 0; k < look.size(); k++) {
                check.due(sentence + " | " + call + " changes nothing, so " + look.get(k) + " behind it", with.get(k), without.get(k));
            }
        }
        return this;
    }

    /** Asked only; for long rows of calls that other runs have shown to change nothing. */
    Run asks(String call, long want) {
        asked(call, want);
        return this;
    }

    /** So many times the same. */
    Run times(int n, String call, long want) {
        for (int k = 0; k < n; k++) does(call, want);
        return this;
    }

    /** THE TEXT anew. */
    Run tell(String text) {
        go("wipe()");
        done.add("wipe()");
        for (int k = 0; k < text.length(); k++) does("write(" + (int) text.charAt(k) + ")", k + 1);
        return this;
    }

    Run bay(String text) {
        tell(text);
        int walkers = 0;
        int towers = 0;
        for (int k = 15; k < text.length(); k++) {
            if (text.charAt(k) == 'W') walkers++;
            if (text.charAt(k) == 'T') towers++;
        }
        return does("bay()", 10 * walkers + towers);
    }

    /** Of a WALKER where it is and how it is. */
    Run where(int walker, int cell, int fate) {
        asked("walker(" + walker + ", 2)", cell);
        asked("walker(" + walker + ", 4)", fate);
        return this;
    }

    private void asked(String call, long want) {
        check.due(sentence + " | call " + (calls + 1) + ": " + call, go(call), want);
    }

    private long go(String call) {
        calls++;
        check.holds(sentence + ": a run has at most 512 calls", calls <= MOST_CALLS);
        return on(x, call);
    }

    private List<Long> seenBy(String more, List<String> look) {
        OverSands twin = new OverSands();
        for (String call : done) on(twin, call);
        if (more != null) on(twin, more);
        check.holds(sentence + ": a twin has at most 512 calls", done.size() + 1 + look.size() <= MOST_CALLS);
        List<Long> seen = new ArrayList<>();
        for (String call : look) seen.add(on(twin, call));
        return seen;
    }

    private static long on(OverSands object, String call) {
        return PARSED.computeIfAbsent(call, Call::new).on(object);
    }

    // ---- what can be seen

    private static List<String> everything() {
        List<String> all = new ArrayList<>();
        for (int what = 0; what <= 13; what++) all.add("about(" + what + ")");
        for (int cell = 0; cell <= 9; cell++) for (int what = 0; what <= 4; what++) all.add("cell(" + cell + ", " + what + ")");
        for (int walker = 0; walker <= 4; walker++) for (int what = 0; what <= 4; what++) all.add("walker(" + walker + ", " + what + ")");
        for (int step = 0; step <= 40; step++) all.add("deep(5, " + step + ")");
        all.add("fault()");
        all.add("saved()");
        all.add("ahead()");
        return all;
    }

    /** THE STEP, ACTS, the WALKERS. */
    private static List<String> moment() {
        List<String> all = new ArrayList<>(List.of("about(2)", "about(12)"));
        for (int walker = 0; walker <= 4; walker++) for (int what = 2; what <= 4; what++) all.add("walker(" + walker + ", " + what + ")");
        return all;
    }

    private static List<String> actsBack() {
        List<String> all = new ArrayList<>();
        for (int k = 0; k <= 16; k++) {
            all.add("undo()");
            all.addAll(moment());
        }
        return all;
    }

    private static List<String> slots() {
        List<String> all = new ArrayList<>();
        for (int slot = 0; slot <= 1; slot++) {
            all.add("again(" + slot + ")");
            all.addAll(moment());
        }
        return all;
    }

    private static List<String> goingOn() {
        List<String> all = new ArrayList<>();
        for (int k = 0; k < 4; k++) {
            for (int walker = 0; walker <= 4; walker++) all.add("climb(" + walker + ")");
            all.add("step()");
            for (int walker = 0; walker <= 4; walker++) all.add("head(" + walker + ", 1)");
            all.addAll(moment());
        }
        return all;
    }

    private static List<String> madeAnew() {
        List<String> all = new ArrayList<>(List.of("bay()"));
        all.addAll(everything());
        all.addAll(List.of("write(83)", "fault()", "wipe()", "write(66)", "fault()"));
        return all;
    }

    private static List<String> drawing() {
        return List.of("fog(0, 20, 20)", "seed(0)", "fog(0, 20, 20)", "seed(5)");
    }

    // ---- a call told as a text

    private static final class Call {
        private final Method method;
        private final Object[] arguments;

        Call(String told) {
            String name = told.substring(0, told.indexOf('('));
            String within = told.substring(told.indexOf('(') + 1, told.length() - 1);
            String[] parts = within.isEmpty() ? new String[0] : within.split(", ");
            method = named(name);
            Class<?>[] types = method.getParameterTypes();
            if (types.length != parts.length) throw new IllegalArgumentException(told);
            arguments = new Object[parts.length];
            for (int k = 0; k < parts.length; k++) arguments[k] = value(types[k], parts[k]);
        }

        private static Method named(String name) {
            for (Method m : OverSands.class.getDeclaredMethods()) if (m.getName().equals(name)) return m;
            throw new IllegalArgumentException("no such call: " + name);
        }

        private static Object value(Class<?> type, String told) {
            if (type == boolean.class) return Boolean.parseBoolean(told);
            if (type == long.class) return told.equals("MIN") ? Long.MIN_VALUE : told.equals("MAX") ? Long.MAX_VALUE : Long.parseLong(told);
            return told.equals("MIN") ? Integer.MIN_VALUE : told.equals("MAX") ? Integer.MAX_VALUE : Integer.parseInt(told);
        }

        long on(OverSands object) {
            try {
                return ((Number) method.invoke(object, arguments)).longValue();
            } catch (ReflectiveOperationException e) {
                throw new IllegalStateException(method + " threw", e);
            }
        }
    }
}
