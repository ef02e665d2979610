import java.util.ArrayList;
import java.util.List;

/** A run of calls on a new object, each with the answer that is due; what is wrong is printed and counted. */
final class Run {
    static final String ARGUMENT = "throws.java.lang.IllegalArgumentException";
    static final String STATE = "throws.java.lang.IllegalStateException";
    static final String UNSUPPORTED = "throws.java.lang.UnsupportedOperationException";

    private static int wrong = 0;

    private final String title;
    private final BeaconRing ring = new BeaconRing();
    private final List<Call> history = new ArrayList<>();

    Run(String title) {
        this.title = title;
    }

    /** A call whose answer is of no matter here, but that may not throw. */
    Run does(String name, long... arguments) {
        Call call = new Call(name, arguments);
        String got = make(call);
        if (got.startsWith("throws.")) {
            tell(call, got, "an answer");
        }
        return this;
    }

    Run gives(long want, String name, long... arguments) {
        Call call = new Call(name, arguments);
        compare(call, make(call), Long.toString(want));
        return this;
    }

    Run refuses(String exception, String name, long... arguments) {
        Call call = new Call(name, arguments);
        List<String> before = lookAfter(history);
        compare(call, make(call), exception);
        if (!before.equals(lookAfter(history))) {
            tell(call, "with a change", "no change");
        }
        return this;
    }

    /** What a call answers now, for a later call to be held against. */
    long ask(String name, long... arguments) {
        return Long.parseLong(make(new Call(name, arguments)));
    }

    static void check(boolean holds, String what) {
        if (!holds) {
            wrong++;
            System.out.println(what);
        }
    }

    /** The end of every test: the exit code tells .ci/run. */
    static void end() {
        System.out.println(wrong == 0 ? "all is as due" : wrong + " answers are not as due");
        if (wrong != 0) {
            System.exit(1);
        }
    }

    private String make(Call call) {
        history.add(call);
        return call.on(ring);
    }

    private void compare(Call call, String got, String want) {
        if (!got.equals(want)) {
            tell(call, got, want);
        }
    }

    private void tell(Call call, String got, String want) {
        check(false, title + ", call " + history.size() + ": " + call.text() + " answered " + got + ", due is " + want);
    }

    /** All that can be seen of a new object after some calls; the object of the run is left alone. */
    private static List<String> lookAfter(List<Call> calls) {
        BeaconRing other = new BeaconRing();
        calls.forEach(call -> call.on(other));
        List<String> seen = new ArrayList<>();
        look(other, seen, "about", 7, -1);
        look(other, seen, "round", 3, -1);
        look(other, seen, "ended", other.about(7) + 1, -1);
        look(other, seen, "share", 3, 3);
        look(other, seen, "commitment", 3, 2);
        look(other, seen, "key", 3, 1);
        look(other, seen, "says", 3, 2);
        // These change the object, so they come last.
        seen.add(new Call("publish").on(other));
        seen.add(new Call("complain").on(other));
        return seen;
    }

    private static void look(BeaconRing ring, List<String> seen, String name, int most, int mostSecond) {
        for (int i = 0; i <= most; i++) {
            if (mostSecond < 0) {
                seen.add(new Call(name, i).on(ring));
            }
            for (int j = 0; j <= mostSecond; j++) {
                seen.add(new Call(name, i, j).on(ring));
            }
        }
    }
}
