import java.util.Map;
import java.util.Random;
import java.util.TreeMap;

/** All promises at once: many runs of calls by chance (always the same ones), each answer held against the model's. */
public final class RandomRunsTest {
    private static final int RUNS = 400;
    private static final int Q = 1073741789;
    private static final int[] EDGES = {-1, Q - 1, Q, Integer.MAX_VALUE, Integer.MIN_VALUE};

    private final Random chance;
    private final BeaconRing ring = new BeaconRing();
    private final Model model = new Model();
    private final Map<String, Integer> seen;
    private int n = 1;

    private RandomRunsTest(long seed, Map<String, Integer> seen) {
        chance = new Random(seed);
        this.seen = seen;
    }

    public static void main(String[] args) {
        Map<String, Integer> seen = new TreeMap<>();
        for (int seed = 1; seed <= RUNS; seed++) {
            new RandomRunsTest(seed, seen).run(seed);
        }
        String[] must = {
            "begin done", "begin argument", "deal done", "deal argument", "deal state", "spoil number", "spoil argument",
            "spoil state", "commitment number", "commitment argument", "commitment state", "share number",
            "share argument", "share state", "isRight 0", "isRight 1", "isRight argument", "isRight state",
            "complain number", "complain state", "answer 0", "answer 1", "answer argument", "answer state",
            "close number", "close state", "key number", "key argument", "key state", "round number",
            "round argument", "round state", "says number", "says argument", "says state", "offer 0", "offer 1",
            "offer argument", "offer state", "value number", "value argument", "value state", "publish number",
            "publish state", "ended number", "ended argument", "ended state", "random number", "random argument",
            "random state", "about number", "about argument"};
        for (String kind : must) {
            Run.check(seen.containsKey(kind), "no run came upon: " + kind);
        }
        Run.end();
    }

    private void run(int seed) {
        int calls = 60 + chance.nextInt(200);
        for (int i = 1; i <= calls; i++) {
            Call call = i == 1 && chance.nextInt(10) > 0 ? begin() : next();
            String want = call.on(model);
            String got = call.on(ring);
            Run.check(got.equals(want),
                    "run " + seed + ", call " + i + ": " + call.text() + " answered " + got + ", due is " + want);
            seen.merge(call.name() + " " + kindOf(call.name(), got), 1, Integer::sum);
        }
    }

    private static String kindOf(String name, String answer) {
        return switch (answer) {
            case Run.ARGUMENT -> "argument";
            case Run.STATE -> "state";
            case "done" -> "done";
            case "0", "1" -> name.equals("isRight") || name.equals("answer") || name.equals("offer") ? answer : "number";
            default -> "number";
        };
    }

    private Call next() {
        int dice = chance.nextInt(100);
        if (dice < 1) {
            return begin();
        }
        return dice < 40 ? nextOfDealing() : dice < 75 ? nextOfRounds() : nextLook();
    }

    private Call nextOfDealing() {
        switch (chance.nextInt(9)) {
            case 0: case 1: case 2:
                return new Call("deal", node(), chance.nextBoolean() ? chance.nextLong() : chance.nextInt(5));
            case 3:
                return new Call("spoil", node(), node(), exponent());
            case 4:
                return new Call("complain");
            case 5: case 6: case 7:
                return complaintAnswer();
            default:
                return chance.nextInt(3) == 0 ? new Call("close", chance.nextLong()) : new Call("complain");
        }
    }

    /** Mostly of a complaint that there is, which the model knows by trying on a share that is not right. */
    private Call complaintAnswer() {
        long x = chance.nextInt(3) == 0 ? exponent() : 0;
        for (int i = 0; i < 10; i++) {
            int dealer = node();
            int k = node();
            String given = new Call("share", dealer, k).on(model);
            if (!given.startsWith("throws") && new Call("isRight", dealer, k, Long.parseLong(given)).on(model).equals("0")) {
                return new Call("answer", dealer, k, x);
            }
        }
        return new Call("answer", node(), node(), x);
    }

    private Call nextOfRounds() {
        switch (chance.nextInt(9)) {
            case 0:
                return new Call("publish");
            case 1:
                return new Call("value", chance.nextInt(8) == 0 ? chance.nextInt() : chance.nextInt(1 << (n + 1)));
            case 2:
                return new Call("offer", node(), node(), small(), small(), small());
            case 3:
                return new Call("offer", node(), node(), 0, chance.nextBoolean() ? Q : 0, edge());
            case 4:
                return offerAsAnotherSays();
            default:
                int node = node();
                return new Call("offer", node, node, 0, 0, 0);
        }
    }

    /** What one node says, with so much added that it is what the other one says. */
    private Call offerAsAnotherSays() {
        long[] arguments = {node(), node(), 0, 0, 0};
        for (int what = 0; what <= 2; what++) {
            String due = new Call("says", arguments[0], what).on(model);
            String said = new Call("says", arguments[1], what).on(model);
            if (!due.startsWith("throws") && !said.startsWith("throws")) {
                arguments[2 + what] = Long.parseLong(due) - Long.parseLong(said);
            }
        }
        return new Call("offer", arguments);
    }

    private Call nextLook() {
        switch (chance.nextInt(9)) {
            case 0:
                return new Call("commitment", node(), node() - 1);
            case 1:
                return new Call("share", node(), node());
            case 2:
                return isRight();
            case 3:
                return new Call("key", chance.nextInt(4) == 0 ? 0 : node(), chance.nextInt(3));
            case 4:
                return new Call("round", chance.nextInt(6) - 1);
            case 5:
                return new Call("says", node(), chance.nextInt(5) - 1);
            case 6:
                return new Call("ended", chance.nextInt(6) - 1);
            case 7:
                return new Call("random", chance.nextInt(6) - 1);
            default:
                return new Call("about", chance.nextInt(10) - 1);
        }
    }

    private Call isRight() {
        int dealer = node();
        int k = node();
        String given = new Call("share", dealer, k).on(model);
        boolean known = !given.startsWith("throws") && chance.nextBoolean();
        return new Call("isRight", dealer, k, known ? Long.parseLong(given) : exponent());
    }

    private Call begin() {
        if (chance.nextInt(6) == 0) {
            return new Call("begin", chance.nextInt(20) - 1, chance.nextInt(20) - 1);
        }
        n = 1 + chance.nextInt(chance.nextInt(4) == 0 ? 16 : 5);
        return new Call("begin", n, 1 + chance.nextInt(n));
    }

    private int node() {
        return chance.nextInt(25) == 0 ? chance.nextInt(20) - 1 : 1 + chance.nextInt(n);
    }

    private int exponent() {
        return chance.nextInt(6) == 0 ? edge() : chance.nextInt(3) == 0 ? small() & 1 : chance.nextInt(Q);
    }

    private int edge() {
        return EDGES[chance.nextInt(EDGES.length)];
    }

    private int small() {
        return chance.nextInt(3) - 1;
    }
}
