import java.util.ArrayList;
import java.util.List;

/**
 * All that can be seen of an object after some calls, so that two states can be held against one another. It takes
 * more calls than an object is promised to serve, which BeaconRing does not mind.
 */
final class Look {
    private final BeaconRing ring = new BeaconRing();
    private final List<String> seen = new ArrayList<>();
    private final int n;
    private final int t;

    private Look(List<Call> calls) {
        calls.forEach(call -> call.on(ring));
        n = ring.about(0);
        t = ring.about(1);
    }

    /** The calls are made on a new object, so that looking changes nothing for those who asked. */
    static List<String> after(List<Call> calls) {
        Look look = new Look(calls);
        look.atNumbers();
        look.atDealers();
        look.atKeys();
        look.atWhatComesOfIt();
        return look.seen;
    }

    private void ask(String name, long... arguments) {
        Call call = new Call(name, arguments);
        seen.add(call.text() + " " + call.on(ring));
    }

    private void atNumbers() {
        for (int what = 0; what <= 7; what++) {
            ask("about", what);
        }
        for (int what = 0; what <= 3; what++) {
            ask("round", what);
        }
        for (int round = 0; round <= ring.about(7) + 1; round++) {
            ask("ended", round);
            ask("random", round);
        }
    }

    private void atDealers() {
        for (int dealer = 1; dealer <= n; dealer++) {
            for (int j = 0; j < t; j++) {
                ask("commitment", dealer, j);
            }
            for (int node = 1; node <= n; node++) {
                ask("share", dealer, node);
            }
        }
    }

    private void atKeys() {
        ask("key", 0, 1);
        for (int node = 1; node <= n; node++) {
            ask("key", node, 0);
            ask("key", node, 1);
            for (int what = 0; what <= 2; what++) {
                ask("says", node, what);
            }
        }
    }

    /** What is hidden, as who complains or which parts are kept, shows by going on; so this comes last. */
    private void atWhatComesOfIt() {
        ask("publish");
        for (int dealer = 1; dealer <= n; dealer++) {
            for (int node = 1; node <= n; node++) {
                ask("answer", dealer, node, 0);
            }
        }
        ask("complain");
        for (int node = 1; node <= n; node++) {
            ask("deal", node, 5);
        }
        ask("close", 7);
        for (int node = n; node >= 1; node--) {
            ask("offer", node, node, 0, 0, 0);
        }
        atNumbers();
        atDealers();
        atKeys();
        ask("publish");
    }
}
