import java.util.ArrayList;
import java.util.List;

/** A run of calls on a new object, each with the answer that is due; what is wrong is printed and counted. */
final class Run {
    static final String ARGUMENT = "throws.java.lang.IllegalArgumentException";
    static final String STATE = "throws.java.lang.IllegalStateException";
    static final String UNSUPPORTED = "throws.java.lang.UnsupportedOperationException";

    private static int wrong = 0;

    private final String title;
    private final BeaconRing ring = new BeaconRing();
    private final List<Call> history = new ArrayList<>();

    Run(String title) {
        this.title = title;
    }

    /** A call whose answer is of no matter here, but that may not throw. */
    Run does(String name, long... arguments) {
        Call call = new Call(name, arguments);
        String got = make(call);
        if (got.startsWith("throws.")) {
            tell(call, got, "an answer");
        }
        return this;
    }

    Run gives(long want, String name, long... arguments) {
        Call call = new Call(name, arguments);
        compare(call, make(call), Long.toString(want));
        return this;
    }

    /** A call that answers and changes nothing. */
    Run leaves(long want, String name, long... arguments) {
        return makeWithoutChange(Long.toString(want), new Call(name, arguments));
    }

    /** A call that throws, which may change nothing. */
    Run refuses(String exception, String name, long... arguments) {
        return makeWithoutChange(exception, new Call(name, arguments));
    }

    /** The same call with each of these numbers in one place of its arguments. */
    Run refusesEach(String exception, long[] numbers, int place, String name, long... arguments) {
        for (long number : numbers) {
            long[] changed = arguments.clone();
            changed[place] = number;
            refuses(exception, name, changed);
        }
        return this;
    }

    /** Whether this object can't be told from a new one after the calls of another run. */
    Run looksLike(Run other) {
        List<String> mine = Look.after(history);
        List<String> due = Look.after(other.history);
        check(mine.equals(due), title + ": looks like " + mine + ", due is " + due);
        return this;
    }

    /** What a call answers now, for a later call to be held against. */
    long ask(String name, long... arguments) {
        return Long.parseLong(make(new Call(name, arguments)));
    }

    static void check(boolean holds, String what) {
        if (!holds) {
            wrong++;
            System.out.println(what);
        }
    }

    /** The end of every test: the exit code tells .ci/run. */
    static void end() {
        System.out.println(wrong == 0 ? "all is as due" : wrong + " answers are not as due");
        if (wrong != 0) {
            System.exit(1);
        }
    }

    private String make(Call call) {
        history.add(call);
        return call.on(ring);
    }

    private Run makeWithoutChange(String want, Call call) {
        List<String> before = Look.after(history);
        compare(call, make(call), want);
        List<String> after = Look.after(history);
        for (int i = 0; i < Math.min(before.size(), after.size()); i++) {
            if (!before.get(i).equals(after.get(i))) {
                tell(call, "and then " + after.get(i), before.get(i) + " as before");
                return this;
            }
        }
        if (before.size() != after.size()) {
            tell(call, "with a change", "no change");
        }
        return this;
    }

    private void compare(Call call, String got, String want) {
        if (!got.equals(want)) {
            tell(call, got, want);
        }
    }

    private void tell(Call call, String got, String want) {
        check(false, title + ", call " + history.size() + ": " + call.text() + " answered " + got + ", due is " + want);
    }
}
