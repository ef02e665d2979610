import java.math.BigInteger;
import java.util.HashMap;
import java.util.Map;

/** Parts and proofs that no node says of itself, but that one who knows a key can make. */
final class Proofs {
    private Proofs() {
    }

    /** One node whose only share is spoiled until it is this key, closed with a value of round 0. */
    static Run withKey(String title, BigInteger key, long zero) {
        BigInteger more = key.subtract(Terms.share(1, 1, 1, 1)).mod(Terms.Q);
        return Setups.alone(title, 1).does("spoil", 1, 1, more.longValue()).does("close", zero).gives(key.longValue(), "key", 1, 0);
    }

    /** The exponent that makes the base this number, by small steps and great ones. */
    static BigInteger logarithmOf(BigInteger number, BigInteger base) {
        int width = 32769;
        Map<BigInteger, Integer> small = new HashMap<>();
        BigInteger step = BigInteger.ONE;
        for (int i = 0; i < width; i++) {
            small.put(step, i);
            step = step.multiply(base).mod(Terms.P);
        }
        BigInteger back = step.modInverse(Terms.P);
        BigInteger rest = number;
        for (long i = 0; i < width; i++) {
            if (small.containsKey(rest)) {
                return BigInteger.valueOf(i * width + small.get(rest));
            }
            rest = rest.multiply(back).mod(Terms.P);
        }
        throw new AssertionError("the number is no power of the base");
    }

    /** c and z that w makes for this part. */
    static BigInteger[] proofBy(BigInteger w, BigInteger base, BigInteger part, BigInteger key) {
        BigInteger open = Terms.G.modPow(key, Terms.P);
        BigInteger c = Terms.challenge(base, open, part, Terms.G.modPow(w, Terms.P), base.modPow(w, Terms.P));
        return new BigInteger[] {c, w.add(c.multiply(key)).mod(Terms.Q)};
    }

    /** The arguments of an offer whose sums are these numbers. */
    static long[] offerOf(Run run, int node, long part, long c, long z) {
        long toPart = part - run.ask("says", node, 0);
        long toC = c - run.ask("says", node, 1);
        return new long[] {node, node, toPart, toC, z - run.ask("says", node, 2)};
    }

    /** The arguments of an offer that brings this part with the proof that w makes for it. */
    static long[] offerBy(Run run, int node, BigInteger w, BigInteger base, BigInteger part, BigInteger key) {
        BigInteger[] proof = proofBy(w, base, part, key);
        return offerOf(run, node, part.longValue(), proof[0].longValue(), proof[1].longValue());
    }
}
