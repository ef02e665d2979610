import java.math.BigInteger;

/** The numbers of the document's Terms, written down a second time with big integers and no short cuts. */
final class Terms {
    static final BigInteger P = BigInteger.valueOf(2147483579L);
    static final BigInteger Q = BigInteger.valueOf(1073741789L);
    static final BigInteger G = BigInteger.valueOf(4);
    private static final BigInteger WORD = BigInteger.ONE.shiftLeft(64);

    private Terms() {
    }

    static long hash(long... numbers) {
        BigInteger h = BigInteger.ZERO;
        for (long x : numbers) {
            h = h.add(BigInteger.valueOf(x)).multiply(new BigInteger("6364136223846793005"));
            h = h.add(new BigInteger("1442695040888963407")).mod(WORD);
            h = h.xor(h.shiftRight(29)).multiply(new BigInteger("2862933555777941757")).mod(WORD);
            h = h.xor(h.shiftRight(32));
        }
        return h.longValue();
    }

    /** The number x for which HASH(x, rest) is this one: every step of HASH can be walked back. */
    static long firstOf(long hash, long... rest) {
        long h = hash;
        for (int i = rest.length - 1; i >= 0; i--) {
            h = stepBack(h) - rest[i];
        }
        return stepBack(h);
    }

    private static long stepBack(long hash) {
        long s = hash ^ hash >>> 32;
        s *= new BigInteger("2862933555777941757").modInverse(WORD).longValue();
        s ^= s >>> 29 ^ s >>> 58;
        return (s - 1442695040888963407L) * new BigInteger("6364136223846793005").modInverse(WORD).longValue();
    }

    static BigInteger modulo(long hash, BigInteger m) {
        return BigInteger.valueOf(hash).mod(m);
    }

    static BigInteger coefficient(long seed, int dealer, int j) {
        return modulo(hash(seed, dealer, j), Q);
    }

    static BigInteger commitment(long seed, int dealer, int j) {
        return G.modPow(coefficient(seed, dealer, j), P);
    }

    static BigInteger share(long seed, int dealer, int node, int t) {
        BigInteger sum = BigInteger.ZERO;
        for (int j = 0; j < t; j++) {
            sum = sum.add(coefficient(seed, dealer, j).multiply(BigInteger.valueOf(node).pow(j)));
        }
        return sum.mod(Q);
    }

    /** RIGHT as the document says it: by the commitments alone. */
    static boolean isRight(long seed, int dealer, int node, int t, BigInteger x) {
        BigInteger product = BigInteger.ONE;
        for (int j = 0; j < t; j++) {
            BigInteger power = BigInteger.valueOf(node).pow(j);
            product = product.multiply(commitment(seed, dealer, j).modPow(power, P)).mod(P);
        }
        return G.modPow(x, P).equals(product);
    }

    static long message(long before, int round) {
        return hash(before, round);
    }

    static BigInteger base(long message) {
        return modulo(message, P.subtract(BigInteger.ONE)).add(BigInteger.ONE).pow(2).mod(P);
    }

    static BigInteger nonce(BigInteger key, long message) {
        return modulo(hash(key.longValue(), message), Q);
    }

    static BigInteger challenge(BigInteger base, BigInteger open, BigInteger part, BigInteger gw, BigInteger bw) {
        long h = hash(base.longValue(), open.longValue(), part.longValue(), gw.longValue(), bw.longValue());
        return modulo(h, Q);
    }

    static boolean isInGroup(BigInteger a) {
        return a.signum() > 0 && a.compareTo(P) < 0 && a.modPow(Q, P).equals(BigInteger.ONE);
    }

    static BigInteger over(BigInteger a, BigInteger b) {
        return a.multiply(b.modInverse(P)).mod(P);
    }

    static boolean holds(BigInteger base, BigInteger open, BigInteger part, BigInteger c, BigInteger z) {
        if (!isInGroup(part) || c.signum() < 0 || c.compareTo(Q) >= 0 || z.signum() < 0 || z.compareTo(Q) >= 0) {
            return false;
        }
        BigInteger first = over(G.modPow(z, P), open.modPow(c, P));
        BigInteger second = over(base.modPow(z, P), part.modPow(c, P));
        return c.equals(challenge(base, open, part, first, second));
    }

    /** L of node k among these nodes. */
    static BigInteger weight(int k, Iterable<Integer> nodes) {
        BigInteger product = BigInteger.ONE;
        for (int m : nodes) {
            if (m != k) {
                BigInteger below = BigInteger.valueOf(m - k).modInverse(Q);
                product = product.multiply(BigInteger.valueOf(m)).multiply(below).mod(Q);
            }
        }
        return product;
    }
}
