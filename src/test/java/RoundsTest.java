import java.math.BigInteger;
import java.util.List;

/** Promises 12 to 18 in ordinary runs: round, says, offer, value, publish, ended, random. */
public final class RoundsTest {
    private static final int MOST = Integer.MAX_VALUE;

    public static void main(String[] args) {
        round();
        says();
        offer();
        offerByAnother();
        value();
        valueOfWrongShares();
        publish();
        publishByTheLastNodes();
        ended();
        random();
        Run.end();
    }

    /** Three nodes, two of them enough, nodes 1 and 3 dealt by the seeds 1 and 3, closed with 9. */
    private static Run closed(String title) {
        return new Run(title).does("begin", 3, 2).does("deal", 1, 1).does("deal", 3, 3).gives(2, "close", 9);
    }

    private static Run open(String title) {
        return new Run(title).does("begin", 3, 2).does("deal", 1, 1).does("deal", 3, 3);
    }

    private static BigInteger secret() {
        return Terms.coefficient(1, 1, 0).add(Terms.coefficient(3, 3, 0)).mod(Terms.Q);
    }

    private static BigInteger keyOf(int node) {
        return Terms.share(1, 1, node, 2).add(Terms.share(3, 3, node, 2)).mod(Terms.Q);
    }

    private static int valueAfter(long before, int round) {
        return Terms.base(Terms.message(before, round)).modPow(secret(), Terms.P).intValueExact();
    }

    private static void round() {
        open("promise 12, open").refuses(Run.STATE, "round", 0).refuses(Run.STATE, "round", 4);
        Run run = closed("promise 12").gives(1, "round", 0).gives(0, "round", 2).gives(0, "round", 3);
        run.gives(Terms.base(Terms.message(9, 1)).intValueExact(), "round", 1);
        run.gives(1, "offer", 3, 3, 0, 0, 0).gives(1, "round", 2).gives(8, "round", 3);
        run.gives(1, "offer", 1, 1, 0, 0, 0).gives(2, "round", 2).gives(10, "round", 3).does("publish");
        run.gives(2, "round", 0).gives(0, "round", 2).gives(0, "round", 3);
        run.gives(Terms.base(Terms.message(valueAfter(9, 1), 2)).intValueExact(), "round", 1);
        run.refuses(Run.ARGUMENT, "round", -1).refuses(Run.ARGUMENT, "round", 4).refuses(Run.ARGUMENT, "round", MOST);
    }

    private static void says() {
        open("promise 13, open").refuses(Run.STATE, "says", 1, 0).refuses(Run.STATE, "says", 0, 7);
        long message = Terms.message(9, 1);
        BigInteger base = Terms.base(message);
        Run run = closed("promise 13");
        for (int k = 1; k <= 3; k++) {
            BigInteger key = keyOf(k);
            BigInteger w = Terms.nonce(key, message);
            BigInteger part = base.modPow(key, Terms.P);
            BigInteger c = Terms.challenge(base, Terms.G.modPow(key, Terms.P), part,
                    Terms.G.modPow(w, Terms.P), base.modPow(w, Terms.P));
            run.gives(part.intValueExact(), "says", k, 0).gives(c.intValueExact(), "says", k, 1);
            run.gives(w.add(c.multiply(key)).mod(Terms.Q).intValueExact(), "says", k, 2);
        }
        run.refuses(Run.ARGUMENT, "says", 0, 0).refuses(Run.ARGUMENT, "says", 4, 0);
        run.refuses(Run.ARGUMENT, "says", 1, -1).refuses(Run.ARGUMENT, "says", 1, 3);
    }

    private static void offer() {
        open("promise 14, open").refuses(Run.STATE, "offer", 1, 1, 0, 0, 0).refuses(Run.STATE, "offer", 0, 9, 0, 0, 0);
        Run run = closed("promise 14");
        run.refuses(Run.ARGUMENT, "offer", 0, 1, 0, 0, 0).refuses(Run.ARGUMENT, "offer", 4, 1, 0, 0, 0);
        run.refuses(Run.ARGUMENT, "offer", 1, 0, 0, 0, 0).refuses(Run.ARGUMENT, "offer", 1, 4, 0, 0, 0);
        run.gives(0, "offer", 1, 1, 1, 0, 0).gives(0, "offer", 1, 1, 0, 1, 0).gives(0, "offer", 1, 1, 0, 0, 1);
        run.gives(0, "offer", 1, 1, -1, 0, 0).gives(0, "offer", 1, 1, 0, -1, 0).gives(0, "offer", 1, 1, 0, 0, -1);
        run.gives(0, "offer", 1, 2, 0, 0, 0).gives(0, "round", 3);
        run.gives(1, "offer", 1, 1, 0, 0, 0).gives(2, "round", 3).gives(0, "offer", 1, 1, 0, 0, 0);
        run.gives(0, "offer", 2, 1, 0, 0, 0).gives(1, "offer", 2, 2, 0, 0, 0).gives(6, "round", 3);
        run.does("publish").gives(1, "offer", 1, 1, 0, 0, 0).gives(2, "round", 3);
    }

    /** With t = 1 all keys are the same, so what one node says holds for another one too. */
    private static void offerByAnother() {
        Run run = new Run("promise 14, another").does("begin", 3, 1).does("deal", 2, 8).gives(1, "close", 0);
        run.gives(1, "offer", 3, 1, 0, 0, 0).gives(8, "round", 3).gives(0, "offer", 3, 3, 0, 0, 0);
        run.gives(1, "offer", 1, 3, 0, 0, 0).gives(10, "round", 3);
        long part = run.ask("says", 2, 0);
        run.gives(part, "value", 8).gives(part, "value", 2).refuses(Run.ARGUMENT, "value", 4);
    }

    private static void value() {
        open("promise 15, open").refuses(Run.STATE, "value", 6).refuses(Run.STATE, "value", 0);
        int due = valueAfter(9, 1);
        Run run = closed("promise 15").refuses(Run.ARGUMENT, "value", 6);
        run.gives(1, "offer", 1, 1, 0, 0, 0).gives(1, "offer", 3, 3, 0, 0, 0).gives(due, "value", 10);
        run.refuses(Run.ARGUMENT, "value", 6).refuses(Run.ARGUMENT, "value", 2).refuses(Run.ARGUMENT, "value", 14);
        run.refuses(Run.ARGUMENT, "value", 0).refuses(Run.ARGUMENT, "value", 3).refuses(Run.ARGUMENT, "value", 18);
        run.refuses(Run.ARGUMENT, "value", Integer.MIN_VALUE + 2).refuses(Run.ARGUMENT, "value", -1);
        run.gives(1, "offer", 2, 2, 0, 0, 0).gives(due, "value", 6).gives(due, "value", 12).gives(due, "value", 10);
        run.refuses(Run.ARGUMENT, "value", 14).gives(1, "round", 0).does("publish").refuses(Run.ARGUMENT, "value", 6);
        Run sixteen = new Run("promise 15, sixteen").does("begin", 16, 8).does("deal", 9, 4).does("close", 1);
        for (int k = 1; k <= 16; k++) {
            sixteen.gives(1, "offer", k, k, 0, 0, 0);
        }
        BigInteger base = Terms.base(Terms.message(1, 1));
        int dueOfAll = base.modPow(Terms.coefficient(4, 9, 0), Terms.P).intValueExact();
        sixteen.gives(dueOfAll, "value", 0x1FE).gives(dueOfAll, "value", 0x1FE00).gives(dueOfAll, "value", 0x15554);
        sixteen.gives(dueOfAll, "publish");
    }

    /** Parts of wrong shares hold against their own public ones, so that the value hangs on who made it. */
    private static void valueOfWrongShares() {
        Run run = open("promise 15, wrong shares").does("spoil", 1, 2, 1).gives(2, "close", 9);
        for (int k = 1; k <= 3; k++) {
            run.gives(1, "offer", k, k, 0, 0, 0);
        }
        BigInteger base = Terms.base(Terms.message(9, 1));
        BigInteger more = base.modPow(Terms.weight(2, List.of(1, 2)), Terms.P);
        long due = BigInteger.valueOf(valueAfter(9, 1)).multiply(more).mod(Terms.P).longValue();
        run.gives(valueAfter(9, 1), "value", 10).gives(due, "value", 6).gives(due, "publish");
    }

    private static void publish() {
        open("promise 16, open").refuses(Run.STATE, "publish");
        Run run = closed("promise 16").refuses(Run.STATE, "publish").gives(1, "offer", 2, 2, 0, 0, 0);
        run.refuses(Run.STATE, "publish").gives(1, "offer", 3, 3, 0, 0, 0);
        int first = valueAfter(9, 1);
        run.gives(first, "publish").gives(2, "round", 0).gives(0, "round", 3).refuses(Run.STATE, "publish");
        run.gives(1, "offer", 1, 1, 0, 0, 0).gives(1, "offer", 2, 2, 0, 0, 0).gives(1, "offer", 3, 3, 0, 0, 0);
        int second = valueAfter(first, 2);
        run.gives(second, "publish").gives(first, "ended", 1).gives(second, "ended", 2).gives(2, "about", 7);
    }

    private static void publishByTheLastNodes() {
        Run run = new Run("promise 16, the last nodes").does("begin", 16, 2).does("deal", 4, 4).does("close", 1);
        run.gives(1, "offer", 16, 16, 0, 0, 0).gives(1, "offer", 15, 15, 0, 0, 0).gives(98304, "round", 3);
        BigInteger base = Terms.base(Terms.message(1, 1));
        run.gives(base.modPow(Terms.coefficient(4, 4, 0), Terms.P).longValue(), "publish").gives(0, "round", 2);
    }

    private static void ended() {
        Run open = open("promise 17, open").refuses(Run.ARGUMENT, "ended", -1).refuses(Run.STATE, "ended", 0);
        open.refuses(Run.STATE, "ended", 1).refuses(Run.STATE, "ended", MOST);
        open.refuses(Run.ARGUMENT, "ended", Integer.MIN_VALUE);
        Run run = closed("promise 17").gives(9, "ended", 0).refuses(Run.ARGUMENT, "ended", 1);
        run.refuses(Run.ARGUMENT, "ended", -1).refuses(Run.ARGUMENT, "ended", MOST);
        run.gives(1, "offer", 1, 1, 0, 0, 0).gives(1, "offer", 2, 2, 0, 0, 0).does("publish");
        run.gives(9, "ended", 0).gives(valueAfter(9, 1), "ended", 1).refuses(Run.ARGUMENT, "ended", 2);
        open("promise 17, far").does("close", Long.MAX_VALUE).gives(Long.MAX_VALUE, "ended", 0);
    }

    private static void random() {
        Run open = open("promise 18, open").refuses(Run.ARGUMENT, "random", -1).refuses(Run.STATE, "random", 0);
        open.refuses(Run.STATE, "random", 1).refuses(Run.STATE, "random", MOST);
        Run run = closed("promise 18").gives(-3268759015032823480L, "random", 0).refuses(Run.ARGUMENT, "random", 1);
        run.refuses(Run.ARGUMENT, "random", -1).refuses(Run.ARGUMENT, "random", MOST);
        run.gives(1, "offer", 1, 1, 0, 0, 0).gives(1, "offer", 2, 2, 0, 0, 0).does("publish");
        run.gives(Terms.hash(9, 0), "random", 0).gives(Terms.hash(valueAfter(9, 1), 1), "random", 1);
        run.refuses(Run.ARGUMENT, "random", 2);
    }
}
