import java.math.BigInteger;
import java.util.HashMap;
import java.util.List;
import java.util.Map;

/** Promises 12 to 18: round, says, offer, value, publish, ended, random. */
public final class RoundsTest {
    private static final int P = 2147483579;
    private static final int Q = 1073741789;
    private static final int MOST = Integer.MAX_VALUE;

    public static void main(String[] args) {
        round();
        says();
        offer();
        offerByAnother();
        offerOfSumsThatLeave();
        offerOfAnotherProof();
        offerAboveTheGroup();
        offerOfKeyZero();
        value();
        valueOfWrongShares();
        publish();
        publishByTheLastNodes();
        threeHundredRounds();
        ended();
        random();
        Run.end();
    }

    /** Three nodes, two of them enough, nodes 1 and 3 dealt by the seeds 1 and 3, closed with 9. */
    private static Run closed(String title) {
        return new Run(title).does("begin", 3, 2).does("deal", 1, 1).does("deal", 3, 3).gives(2, "close", 9);
    }

    private static Run open(String title) {
        return new Run(title).does("begin", 3, 2).does("deal", 1, 1).does("deal", 3, 3);
    }

    private static BigInteger secret() {
        return Terms.coefficient(1, 1, 0).add(Terms.coefficient(3, 3, 0)).mod(Terms.Q);
    }

    private static BigInteger keyOf(int node) {
        return Terms.share(1, 1, node, 2).add(Terms.share(3, 3, node, 2)).mod(Terms.Q);
    }

    private static int valueAfter(long before, int round) {
        return Terms.base(Terms.message(before, round)).modPow(secret(), Terms.P).intValueExact();
    }

    private static void round() {
        open("promise 12, open").refuses(Run.STATE, "round", 0).refuses(Run.STATE, "round", 4);
        Run run = closed("promise 12").gives(1, "round", 0).gives(0, "round", 2).gives(0, "round", 3);
        run.gives(Terms.base(Terms.message(9, 1)).intValueExact(), "round", 1);
        run.gives(1, "offer", 3, 3, 0, 0, 0).gives(1, "round", 2).gives(8, "round", 3);
        run.gives(1, "offer", 1, 1, 0, 0, 0).gives(2, "round", 2).gives(10, "round", 3).does("publish");
        run.gives(2, "round", 0).gives(0, "round", 2).gives(0, "round", 3);
        run.gives(Terms.base(Terms.message(valueAfter(9, 1), 2)).intValueExact(), "round", 1);
        run.refuses(Run.ARGUMENT, "round", -1).refuses(Run.ARGUMENT, "round", 4).refuses(Run.ARGUMENT, "round", MOST);
    }

    private static void says() {
        open("promise 13, open").refuses(Run.STATE, "says", 1, 0).refuses(Run.STATE, "says", 0, 7);
        long message = Terms.message(9, 1);
        BigInteger base = Terms.base(message);
        Run run = closed("promise 13");
        for (int k = 1; k <= 3; k++) {
            BigInteger key = keyOf(k);
            BigInteger w = Terms.nonce(key, message);
            BigInteger part = base.modPow(key, Terms.P);
            BigInteger c = Terms.challenge(base, Terms.G.modPow(key, Terms.P), part,
                    Terms.G.modPow(w, Terms.P), base.modPow(w, Terms.P));
            run.gives(part.intValueExact(), "says", k, 0).gives(c.intValueExact(), "says", k, 1);
            run.gives(w.add(c.multiply(key)).mod(Terms.Q).intValueExact(), "says", k, 2);
        }
        run.refuses(Run.ARGUMENT, "says", 0, 0).refuses(Run.ARGUMENT, "says", 4, 0);
        run.refuses(Run.ARGUMENT, "says", 1, -1).refuses(Run.ARGUMENT, "says", 1, 3);
    }

    private static void offer() {
        open("promise 14, open").refuses(Run.STATE, "offer", 1, 1, 0, 0, 0).refuses(Run.STATE, "offer", 0, 9, 0, 0, 0);
        Run run = closed("promise 14");
        run.refuses(Run.ARGUMENT, "offer", 0, 1, 0, 0, 0).refuses(Run.ARGUMENT, "offer", 4, 1, 0, 0, 0);
        run.refuses(Run.ARGUMENT, "offer", 1, 0, 0, 0, 0).refuses(Run.ARGUMENT, "offer", 1, 4, 0, 0, 0);
        run.gives(0, "offer", 1, 1, 1, 0, 0).gives(0, "offer", 1, 1, 0, 1, 0).gives(0, "offer", 1, 1, 0, 0, 1);
        run.gives(0, "offer", 1, 1, -1, 0, 0).gives(0, "offer", 1, 1, 0, -1, 0).gives(0, "offer", 1, 1, 0, 0, -1);
        run.gives(0, "offer", 1, 2, 0, 0, 0).gives(0, "round", 3);
        run.gives(1, "offer", 1, 1, 0, 0, 0).gives(2, "round", 3).gives(0, "offer", 1, 1, 0, 0, 0);
        run.gives(0, "offer", 2, 1, 0, 0, 0).gives(1, "offer", 2, 2, 0, 0, 0).gives(6, "round", 3);
        run.does("publish").gives(1, "offer", 1, 1, 0, 0, 0).gives(2, "round", 3);
    }

    /** With t = 1 all keys are the same, so what one node says holds for another one too. */
    private static void offerByAnother() {
        Run run = new Run("promise 14, another").does("begin", 3, 1).does("deal", 2, 8).gives(1, "close", 0);
        run.gives(1, "offer", 3, 1, 0, 0, 0).gives(8, "round", 3).gives(0, "offer", 3, 3, 0, 0, 0);
        run.gives(1, "offer", 1, 3, 0, 0, 0).gives(10, "round", 3);
        long part = run.ask("says", 2, 0);
        run.gives(part, "value", 8).gives(part, "value", 2).refuses(Run.ARGUMENT, "value", 4);
    }

    private static void offerOfSumsThatLeave() {
        Run run = closed("promise 14, sums");
        long part = run.ask("says", 2, 0);
        long c = run.ask("says", 2, 1);
        long z = run.ask("says", 2, 2);
        run.gives(0, "offer", 2, 2, MOST - part, 0, 0).gives(0, "offer", 2, 2, MOST - part + 1, 0, 0);
        run.gives(0, "offer", 2, 2, -part, 0, 0).gives(0, "offer", 2, 2, -part - 1, 0, 0);
        run.gives(0, "offer", 2, 2, P - part, 0, 0).gives(0, "offer", 2, 2, P - 1 - part, 0, 0);
        run.gives(0, "offer", 2, 2, 0, -c, 0).gives(0, "offer", 2, 2, 0, -c - 1, 0).gives(0, "offer", 2, 2, 0, MOST, 0);
        // c + q and z + q are the same exponents, but not numbers of 0 .. q - 1.
        run.gives(0, "offer", 2, 2, 0, Q, 0).gives(0, "offer", 2, 2, 0, 0, Q).gives(0, "offer", 2, 2, 0, 0, -Q);
        run.gives(0, "offer", 2, 2, 0, 0, -z).gives(0, "offer", 2, 2, 0, 0, -z - 1).gives(0, "offer", 2, 2, 0, 0, MOST);
        run.gives(0, "offer", 2, 2, MOST, MOST, MOST);
        run.gives(0, "offer", 2, 2, Integer.MIN_VALUE, Integer.MIN_VALUE, Integer.MIN_VALUE);
        run.gives(0, "round", 3).gives(1, "offer", 2, 2, 0, 0, 0);
    }

    /** Who knows the key can make other proofs; they hold as well, but none does for a part outside the group. */
    private static void offerOfAnotherProof() {
        Run run = closed("promise 14, another proof");
        BigInteger base = Terms.base(Terms.message(9, 1));
        BigInteger part = base.modPow(keyOf(2), Terms.P);
        BigInteger outside = Terms.P.subtract(part);
        // p - part is -part: by the evenness of c its powers are those of the part or not, so both are tried.
        for (int w = 1; w <= 12; w++) {
            run.gives(0, "offer", offerBy(run, 2, BigInteger.valueOf(w), base, outside, keyOf(2)));
        }
        run.gives(0, "round", 3).gives(1, "offer", offerBy(run, 2, BigInteger.TEN, base, part, keyOf(2)));
        run.gives(4, "round", 3);
    }

    /** A key whose part is 4: then p + 4 is the same modulo p, but no number of the group. */
    private static void offerAboveTheGroup() {
        BigInteger base = Terms.base(Terms.message(9, 1));
        BigInteger key = logarithmOf(Terms.G, base);
        Run run = withKey("promise 14, above the group", key).gives(4, "says", 1, 0);
        run.gives(0, "offer", offerBy(run, 1, BigInteger.TEN, base, Terms.P.add(Terms.G), key));
        run.gives(1, "offer", offerBy(run, 1, BigInteger.TEN, base, Terms.G, key)).gives(4, "publish");
    }

    private static void offerOfKeyZero() {
        Run run = withKey("promise 14, key 0", BigInteger.ZERO).gives(0, "key", 1, 0).gives(1, "key", 1, 1);
        run.gives(1, "says", 1, 0).gives(Terms.nonce(BigInteger.ZERO, Terms.message(9, 1)).longValue(), "says", 1, 2);
        run.gives(0, "offer", 1, 1, -1, 0, 0).gives(1, "offer", 1, 1, 0, 0, 0).gives(1, "value", 2).gives(1, "publish");
    }

    /** One node whose only share is spoiled until it is this key, closed with 9. */
    private static Run withKey(String title, BigInteger key) {
        BigInteger more = key.subtract(Terms.share(1, 1, 1, 1)).mod(Terms.Q);
        return new Run(title).does("begin", 1, 1).does("deal", 1, 1).does("spoil", 1, 1, more.longValue()).does("close", 9);
    }

    /** The exponent that makes the base this number, by small steps and great ones. */
    private static BigInteger logarithmOf(BigInteger number, BigInteger base) {
        int width = 32769;
        Map<BigInteger, Integer> small = new HashMap<>();
        BigInteger step = BigInteger.ONE;
        for (int i = 0; i < width; i++) {
            small.put(step, i);
            step = step.multiply(base).mod(Terms.P);
        }
        BigInteger back = step.modInverse(Terms.P);
        BigInteger rest = number;
        for (long i = 0; i < width; i++) {
            if (small.containsKey(rest)) {
                return BigInteger.valueOf(i * width + small.get(rest));
            }
            rest = rest.multiply(back).mod(Terms.P);
        }
        throw new AssertionError("the number is no power of the base");
    }

    /** The numbers of an offer that brings this part with the proof that w makes for it. */
    private static long[] offerBy(Run run, int node, BigInteger w, BigInteger base, BigInteger part, BigInteger key) {
        BigInteger[] proof = proofBy(w, base, Terms.G.modPow(key, Terms.P), part, key);
        long toPart = part.longValue() - run.ask("says", node, 0);
        long toC = proof[0].longValue() - run.ask("says", node, 1);
        return new long[] {node, node, toPart, toC, proof[1].longValue() - run.ask("says", node, 2)};
    }

    private static BigInteger[] proofBy(BigInteger w, BigInteger base, BigInteger open, BigInteger part, BigInteger key) {
        BigInteger c = Terms.challenge(base, open, part, Terms.G.modPow(w, Terms.P), base.modPow(w, Terms.P));
        return new BigInteger[] {c, w.add(c.multiply(key)).mod(Terms.Q)};
    }

    private static void value() {
        open("promise 15, open").refuses(Run.STATE, "value", 6).refuses(Run.STATE, "value", 0);
        int due = valueAfter(9, 1);
        Run run = closed("promise 15").refuses(Run.ARGUMENT, "value", 6);
        run.gives(1, "offer", 1, 1, 0, 0, 0).gives(1, "offer", 3, 3, 0, 0, 0).gives(due, "value", 10);
        run.refuses(Run.ARGUMENT, "value", 6).refuses(Run.ARGUMENT, "value", 2).refuses(Run.ARGUMENT, "value", 14);
        run.refuses(Run.ARGUMENT, "value", 0).refuses(Run.ARGUMENT, "value", 3).refuses(Run.ARGUMENT, "value", 18);
        run.refuses(Run.ARGUMENT, "value", Integer.MIN_VALUE + 2).refuses(Run.ARGUMENT, "value", -1);
        run.gives(1, "offer", 2, 2, 0, 0, 0).gives(due, "value", 6).gives(due, "value", 12).gives(due, "value", 10);
        run.refuses(Run.ARGUMENT, "value", 14).gives(1, "round", 0).does("publish").refuses(Run.ARGUMENT, "value", 6);
        Run sixteen = new Run("promise 15, sixteen").does("begin", 16, 8).does("deal", 9, 4).does("close", 1);
        for (int k = 1; k <= 16; k++) {
            sixteen.gives(1, "offer", k, k, 0, 0, 0);
        }
        BigInteger base = Terms.base(Terms.message(1, 1));
        int dueOfAll = base.modPow(Terms.coefficient(4, 9, 0), Terms.P).intValueExact();
        sixteen.gives(dueOfAll, "value", 0x1FE).gives(dueOfAll, "value", 0x1FE00).gives(dueOfAll, "value", 0x15554);
        sixteen.gives(dueOfAll, "publish");
    }

    /** Parts of wrong shares hold against their own public ones, so that the value hangs on who made it. */
    private static void valueOfWrongShares() {
        Run run = open("promise 15, wrong shares").does("spoil", 1, 2, 1).gives(2, "close", 9);
        for (int k = 1; k <= 3; k++) {
            run.gives(1, "offer", k, k, 0, 0, 0);
        }
        BigInteger base = Terms.base(Terms.message(9, 1));
        BigInteger more = base.modPow(Terms.weight(2, List.of(1, 2)), Terms.P);
        long due = BigInteger.valueOf(valueAfter(9, 1)).multiply(more).mod(Terms.P).longValue();
        run.gives(valueAfter(9, 1), "value", 10).gives(due, "value", 6).gives(due, "publish");
    }

    private static void publish() {
        open("promise 16, open").refuses(Run.STATE, "publish");
        Run run = closed("promise 16").refuses(Run.STATE, "publish").gives(1, "offer", 2, 2, 0, 0, 0);
        run.refuses(Run.STATE, "publish").gives(1, "offer", 3, 3, 0, 0, 0);
        int first = valueAfter(9, 1);
        run.gives(first, "publish").gives(2, "round", 0).gives(0, "round", 3).refuses(Run.STATE, "publish");
        run.gives(1, "offer", 1, 1, 0, 0, 0).gives(1, "offer", 2, 2, 0, 0, 0).gives(1, "offer", 3, 3, 0, 0, 0);
        int second = valueAfter(first, 2);
        run.gives(second, "publish").gives(first, "ended", 1).gives(second, "ended", 2).gives(2, "about", 7);
    }

    private static void publishByTheLastNodes() {
        Run run = new Run("promise 16, the last nodes").does("begin", 16, 2).does("deal", 4, 4).does("close", 1);
        run.gives(1, "offer", 16, 16, 0, 0, 0).gives(1, "offer", 15, 15, 0, 0, 0).gives(98304, "round", 3);
        BigInteger base = Terms.base(Terms.message(1, 1));
        run.gives(base.modPow(Terms.coefficient(4, 4, 0), Terms.P).longValue(), "publish").gives(0, "round", 2);
    }

    /** No run of 512 calls gets as far as 300 rounds, but the promise is kept there too. */
    private static void threeHundredRounds() {
        Run run = new Run("promise 16, 300 rounds").does("begin", 1, 1).does("deal", 1, 1).does("close", 1);
        for (int round = 1; round <= 300; round++) {
            run.gives(1, "offer", 1, 1, 0, 0, 0).does("publish");
        }
        run.gives(300, "about", 7).gives(301, "round", 0).refuses(Run.STATE, "publish");
        run.gives(1, "offer", 1, 1, 0, 0, 0).refuses(Run.UNSUPPORTED, "publish").gives(2, "round", 3);
        run.does("value", 2).does("ended", 300).refuses(Run.ARGUMENT, "ended", 301);
    }

    private static void ended() {
        Run open = open("promise 17, open").refuses(Run.ARGUMENT, "ended", -1).refuses(Run.STATE, "ended", 0);
        open.refuses(Run.STATE, "ended", 1).refuses(Run.STATE, "ended", MOST);
        open.refuses(Run.ARGUMENT, "ended", Integer.MIN_VALUE);
        Run run = closed("promise 17").gives(9, "ended", 0).refuses(Run.ARGUMENT, "ended", 1);
        run.refuses(Run.ARGUMENT, "ended", -1).refuses(Run.ARGUMENT, "ended", MOST);
        run.gives(1, "offer", 1, 1, 0, 0, 0).gives(1, "offer", 2, 2, 0, 0, 0).does("publish");
        run.gives(9, "ended", 0).gives(valueAfter(9, 1), "ended", 1).refuses(Run.ARGUMENT, "ended", 2);
        open("promise 17, far").does("close", Long.MAX_VALUE).gives(Long.MAX_VALUE, "ended", 0);
    }

    private static void random() {
        Run open = open("promise 18, open").refuses(Run.ARGUMENT, "random", -1).refuses(Run.STATE, "random", 0);
        open.refuses(Run.STATE, "random", 1).refuses(Run.STATE, "random", MOST);
        Run run = closed("promise 18").gives(-3268759015032823480L, "random", 0).refuses(Run.ARGUMENT, "random", 1);
        run.refuses(Run.ARGUMENT, "random", -1).refuses(Run.ARGUMENT, "random", MOST);
        run.gives(1, "offer", 1, 1, 0, 0, 0).gives(1, "offer", 2, 2, 0, 0, 0).does("publish");
        run.gives(Terms.hash(9, 0), "random", 0).gives(Terms.hash(valueAfter(9, 1), 1), "random", 1);
        run.refuses(Run.ARGUMENT, "random", 2);
    }
}
