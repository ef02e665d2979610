import java.math.BigInteger;

/** The edges of the document's Terms: hashes with a sign, wrap-arounds, the ends of what is counted modulo p and q. */
public final class TermsEdgesTest {
    private static final int P = Setups.P;
    private static final int Q = Setups.Q;
    /** 1 / 4 modulo p, which is g^(q - 1). */
    private static final int QUARTER = 536870895;
    private static final long[] HASHES = {0, 1, -1, Q - 1, Q, Q + 1, -Q, P - 2, P - 1, P, Long.MAX_VALUE, Long.MIN_VALUE};

    public static void main(String[] args) {
        hashWrapsAround();
        hashModuloIsRoundedDown();
        coefficientAtItsEnds();
        sharesWrapAround();
        keysWrapAround();
        wholeKeyWrapsAround();
        baseAtItsEnds();
        baseOfHashesWithASign();
        partsOfBaseOne();
        nonceAtItsEnds();
        weightsOfFarNodes();
        Run.end();
    }

    /** Numbers that were worked out by another program. */
    private static void hashWrapsAround() {
        Run run = new Run("HASH: all modulo 2^64, shifts with zeros");
        checkRandomOfZero(run, 0, -8477879589297441332L);
        checkRandomOfZero(run, -1, -6007318034887429527L);
        checkRandomOfZero(run, Long.MAX_VALUE, 1217848015395330202L);
        checkRandomOfZero(run, Long.MIN_VALUE, -300620007591793465L);
        for (long hash : HASHES) {
            checkRandomOfZero(run, Terms.firstOf(hash, 0), hash);
        }
    }

    private static void checkRandomOfZero(Run run, long zero, long due) {
        run.does("begin", 1, 1).does("deal", 1, 1).does("close", zero).gives(due, "random", 0);
    }

    /** With t = 1 a share is a(0), which is the hash modulo q. */
    private static void hashModuloIsRoundedDown() {
        for (long hash : HASHES) {
            Run run = Setups.alone("HASH modulo a number is rounded down: " + hash, Setups.seedFor(hash, 1, 0));
            run.gives(Math.floorMod(hash, (long) Q), "share", 1, 1);
        }
        Setups.alone("HASH modulo q: -1", Setups.seedFor(-1, 1, 0)).gives(Q - 1, "share", 1, 1);
        Setups.alone("HASH modulo q: q", Setups.seedFor(Q, 1, 0)).gives(0, "share", 1, 1);
    }

    private static void coefficientAtItsEnds() {
        Setups.alone("a(0) is 0", Setups.seedFor(0, 1, 0)).gives(1, "commitment", 1, 0);
        Setups.alone("a(0) is 1", Setups.seedFor(1, 1, 0)).gives(4, "commitment", 1, 0);
        Setups.alone("a(0) is q - 1", Setups.seedFor(Q - 1, 1, 0)).gives(QUARTER, "commitment", 1, 0);
    }

    /** a(1) is q - 1, so that a share of node k is a(0) - k. */
    private static void sharesWrapAround() {
        long seed = Setups.seedFor(-1, 16, 1);
        Run run = new Run("a share is modulo q").does("begin", 16, 2).does("deal", 16, seed);
        run.gives(QUARTER, "commitment", 16, 1);
        long first = Terms.coefficient(seed, 16, 0).longValue();
        for (int k = 1; k <= 16; k++) {
            run.gives(Math.floorMod(first - k, (long) Q), "share", 16, k).gives(1, "isRight", 16, k, first - k);
        }
    }

    private static void keysWrapAround() {
        Run run = new Run("a key is modulo q").does("begin", 16, 1);
        for (int i = 1; i <= 16; i++) {
            run.does("deal", i, Setups.seedFor(-1, i, 0));
        }
        run.gives(16, "close", 0);
        for (int k = 1; k <= 16; k++) {
            run.gives(Q - 16, "key", k, 0);
        }
    }

    /** q - 1 and 1 make q, which is 0. */
    private static void wholeKeyWrapsAround() {
        Run run = new Run("the whole public key of a sum of q").does("begin", 2, 1);
        run.does("deal", 1, Setups.seedFor(-1, 1, 0)).does("deal", 2, Setups.seedFor(1, 2, 0)).gives(2, "close", 0);
        run.gives(0, "key", 1, 0).gives(1, "key", 1, 1).gives(0, "key", 2, 0).gives(1, "key", 2, 1).gives(1, "key", 0, 1);
    }

    private static Run closedWithMessage(String title, long message) {
        return Setups.alone(title + " " + message, 1).gives(1, "close", Terms.firstOf(message, 1));
    }

    private static void baseAtItsEnds() {
        closedWithMessage("the base is the square of 1 for M", 0).gives(1, "round", 1);
        closedWithMessage("the base is the square of 1 for M", P - 1).gives(1, "round", 1);
        closedWithMessage("the base is the square of 2 for M", 1).gives(4, "round", 1);
        closedWithMessage("the base is the square of p - 1 for M", P - 2).gives(1, "round", 1);
        closedWithMessage("the base is the square of p - 1 for M", -1).gives(1, "round", 1);
        closedWithMessage("the base is the square of p - 2 for M", P - 3).gives(4, "round", 1);
        closedWithMessage("the base is the square of p - 2 for M", -2).gives(4, "round", 1);
    }

    private static void baseOfHashesWithASign() {
        for (long message : HASHES) {
            BigInteger root = BigInteger.valueOf(Math.floorMod(message, P - 1L) + 1);
            long due = root.multiply(root).mod(Terms.P).longValueExact();
            closedWithMessage("the base of M", message).gives(due, "round", 1);
        }
    }

    /** 1 to any power is 1, and the proof holds all the same. */
    private static void partsOfBaseOne() {
        Run run = new Run("parts of the base 1").does("begin", 3, 2).does("deal", 2, 5).does("close", Terms.firstOf(0, 1));
        for (int k = 1; k <= 3; k++) {
            run.gives(1, "says", k, 0).gives(1, "offer", k, k, 0, 0, 0);
        }
        run.gives(1, "value", 6).gives(1, "value", 12).gives(1, "publish").gives(1, "ended", 1);
        run.gives(Terms.base(Terms.message(1, 2)).longValue(), "round", 1);
    }

    /** w is 0 or q - 1: then z is c key, or one less. */
    private static void nonceAtItsEnds() {
        checkNonce(0, 0);
        checkNonce(Q, 0);
        checkNonce(-1, Q - 1);
        checkNonce(Q - 1, Q - 1);
    }

    private static void checkNonce(long hash, long w) {
        long key = Terms.coefficient(1, 1, 0).longValue();
        long message = secondOf(hash, key);
        Run run = closedWithMessage("w is " + w + " for M", message).gives(key, "key", 1, 0);
        BigInteger c = BigInteger.valueOf(run.ask("says", 1, 1));
        long z = c.multiply(BigInteger.valueOf(key)).add(BigInteger.valueOf(w)).mod(Terms.Q).longValueExact();
        run.gives(z, "says", 1, 2).gives(1, "offer", 1, 1, 0, 0, 0);
    }

    /** The number x for which HASH(first, x) is this one. */
    private static long secondOf(long hash, long first) {
        return Terms.firstOf(hash) - Terms.hash(first);
    }

    /** m - k is below 0 or above it, as far as 15 each way. */
    private static void weightsOfFarNodes() {
        Run run = new Run("L of nodes that are far from one another").does("begin", 16, 2).does("deal", 1, 3).does("close", 4);
        for (int k = 1; k <= 16; k++) {
            run.gives(1, "offer", k, k, 0, 0, 0);
        }
        BigInteger base = Terms.base(Terms.message(4, 1));
        long due = base.modPow(Terms.coefficient(3, 1, 0), Terms.P).longValueExact();
        for (int k = 1; k <= 16; k++) {
            for (int m = k + 1; m <= 16; m++) {
                run.gives(due, "value", 1L << k | 1L << m);
            }
        }
    }
}
