import java.math.BigInteger;

/** The edges of promise 14, a test for each sentence that names one; the titles are the document's words. */
public final class OfferEdgesTest {
    private static final int P = Setups.P;
    private static final int Q = Setups.Q;
    private static final int MOST = Setups.MOST;
    private static final int LEAST = Setups.LEAST;
    private static final long[] NO_NODE = Setups.NO_NODE;
    // Found by trying all w: what one node says that dealt by the seed 1 and closed with 6 is at an end by these.
    private static final long W_OF_C_LEAST = 4605058;
    private static final long W_OF_C_MOST = 11396596;
    private static final long W_OF_Z_LEAST = 1007771508;
    private static final long W_OF_Z_MOST = 206654604;

    public static void main(String[] args) {
        whenItIsNotClosed();
        ofNoNode();
        sumsBelowZero();
        sumsAboveTheMost();
        sumsAtTheEnds();
        sumsThatLeaveOneByOne();
        sumsThatStay();
        partOutsideTheGroup();
        partThatIsNoNumberOfTheGroup();
        partOfOne();
        partNextToP();
        partOfAnother();
        cAtItsEnds();
        zAtItsEnds();
        exponentsThatAreTheSame();
        proofOfAnotherRound();
        thereIsOneOfThatNode();
        forAnotherNode();
        forAnotherNodeByItsNumbers();
        ofTheLastNode();
        Run.end();
    }

    private static void whenItIsNotClosed() {
        Run[] open = {new Run("promise 14: it is not closed, at first"), Setups.dealt("promise 14: it is not closed"),
            Setups.inRoundTwo("promise 14: it is not closed, anew").does("begin", 4, 2)};
        for (Run run : open) {
            run.refuses(Run.STATE, "offer", 1, 1, 0, 0, 0).refuses(Run.STATE, "offer", 1, 2, MOST, MOST, MOST);
            // There is no such node either, but the exception that is named first comes.
            run.refuses(Run.STATE, "offer", 0, 1, 0, 0, 0).refuses(Run.STATE, "offer", 1, 5, 0, 0, 0);
        }
    }

    private static void ofNoNode() {
        Run run = Setups.inRoundTwo("promise 14: no such node");
        run.refusesEach(Run.ARGUMENT, NO_NODE, 0, "offer", 0, 1, 0, 0, 0);
        run.refusesEach(Run.ARGUMENT, NO_NODE, 1, "offer", 1, 0, 0, 0, 0);
        // Sums that leave, or a part that is kept, make no difference.
        run.refusesEach(Run.ARGUMENT, NO_NODE, 1, "offer", 3, 0, 0, 0, 0).refuses(Run.ARGUMENT, "offer", 1, 5, LEAST, 0, 0);
    }

    private static void sumsBelowZero() {
        Run run = Setups.closed("promise 14: the sums do not leave 0");
        for (int what = 0; what <= 2; what++) {
            long said = run.ask("says", 2, what);
            run.leaves(0, "offer", more(what, -said - 1)).leaves(0, "offer", more(what, LEAST)).leaves(0, "offer", more(what, -MOST));
        }
        run.gives(1, "offer", 2, 2, 0, 0, 0);
    }

    private static void sumsAboveTheMost() {
        Run run = Setups.closed("promise 14: the sums do not leave 2^31 - 1");
        for (int what = 0; what <= 2; what++) {
            long said = run.ask("says", 2, what);
            run.leaves(0, "offer", more(what, MOST - said + 1)).leaves(0, "offer", more(what, MOST));
        }
        run.gives(1, "offer", 2, 2, 0, 0, 0);
    }

    /** They do not leave, but what they make does not hold. */
    private static void sumsAtTheEnds() {
        Run run = Setups.closed("promise 14: sums of 0 and of 2^31 - 1");
        for (int what = 0; what <= 2; what++) {
            long said = run.ask("says", 2, what);
            run.leaves(0, "offer", more(what, -said)).leaves(0, "offer", more(what, MOST - said));
        }
        run.leaves(0, "offer", Proofs.offerOf(run, 2, 0, 0, 0)).leaves(0, "offer", Proofs.offerOf(run, 2, MOST, MOST, MOST));
        run.gives(1, "offer", 2, 2, 0, 0, 0);
    }

    /** Each of the three alone is enough for a refusal, and all of them together too. */
    private static void sumsThatLeaveOneByOne() {
        Run run = Setups.closed("promise 14: one of the sums leaves");
        run.leaves(0, "offer", 2, 2, MOST, 0, 0).leaves(0, "offer", 2, 2, 0, MOST, 0).leaves(0, "offer", 2, 2, 0, 0, MOST);
        run.leaves(0, "offer", 2, 2, LEAST, 0, 0).leaves(0, "offer", 2, 2, 0, LEAST, 0).leaves(0, "offer", 2, 2, 0, 0, LEAST);
        run.leaves(0, "offer", 2, 2, MOST, MOST, MOST).leaves(0, "offer", 2, 2, LEAST, LEAST, LEAST);
        run.gives(1, "offer", 2, 2, 0, 0, 0);
    }

    /** Other proofs of node 4, which says a small c and a small z: they hold as well, however far away they are. */
    private static void sumsThatStay() {
        BigInteger part = base().modPow(key(4), Terms.P);
        boolean isFarInC = false;
        boolean isFarInZ = false;
        for (int w = 1; w <= 40; w++) {
            Run run = Setups.closed("promise 14: the sums stay");
            long[] arguments = Proofs.offerBy(run, 4, BigInteger.valueOf(w), base(), part, key(4));
            isFarInC |= arguments[3] > run.ask("says", 4, 1);
            isFarInZ |= arguments[4] > run.ask("says", 4, 2);
            run.gives(1, "offer", arguments).gives(16, "round", 3);
        }
        Run.check(isFarInC && isFarInZ, "some of them are more than twice what is said");
    }

    /** An offer of node 2 for itself with this much more in one place. */
    private static long[] more(int what, long x) {
        long[] arguments = {2, 2, 0, 0, 0};
        arguments[2 + what] = x;
        return arguments;
    }

    private static BigInteger key(int node) {
        return Terms.share(11, 1, node, 2);
    }

    private static BigInteger base() {
        return Terms.base(Terms.message(9, 1));
    }

    /** p - part is no square; where c is even its power is that of the part, so w of both kinds are tried. */
    private static void partOutsideTheGroup() {
        Run run = Setups.closed("promise 14: it is in the group");
        BigInteger part = base().modPow(key(2), Terms.P);
        for (int w = 1; w <= 12; w++) {
            run.leaves(0, "offer", Proofs.offerBy(run, 2, BigInteger.valueOf(w), base(), Terms.P.subtract(part), key(2)));
        }
        run.gives(1, "offer", Proofs.offerBy(run, 2, BigInteger.TEN, base(), part, key(2))).gives(4, "round", 3);
    }

    /** The part is 4: p + 4 is the same modulo p, but no number of the group. */
    private static void partThatIsNoNumberOfTheGroup() {
        BigInteger key = Proofs.logarithmOf(Terms.G, base());
        Run run = Proofs.withKey("promise 14: p + 4 is not in the group", key, 9).gives(4, "says", 1, 0);
        run.leaves(0, "offer", Proofs.offerBy(run, 1, BigInteger.TEN, base(), Terms.P.add(Terms.G), key));
        run.leaves(0, "offer", Proofs.offerBy(run, 1, BigInteger.TEN, base(), Terms.P, key));
        run.leaves(0, "offer", Proofs.offerBy(run, 1, BigInteger.TEN, base(), BigInteger.ZERO, key));
        run.gives(1, "offer", Proofs.offerBy(run, 1, BigInteger.TEN, base(), Terms.G, key)).gives(4, "publish");
    }

    /** The least number of the group: that of the key 0. */
    private static void partOfOne() {
        BigInteger zero = BigInteger.ZERO;
        Run run = Proofs.withKey("promise 14: the part is 1", zero, 9).gives(1, "key", 1, 1).gives(1, "says", 1, 0);
        run.gives(Terms.nonce(zero, Terms.message(9, 1)).longValue(), "says", 1, 2).leaves(0, "offer", 1, 1, -1, 0, 0);
        for (int w = 1; w <= 6; w++) {
            BigInteger by = BigInteger.valueOf(w);
            run.leaves(0, "offer", Proofs.offerBy(run, 1, by, base(), Terms.P.subtract(BigInteger.ONE), zero));
            run.leaves(0, "offer", Proofs.offerBy(run, 1, by, base(), Terms.P.add(BigInteger.ONE), zero));
        }
        run.gives(1, "offer", 1, 1, 0, 0, 0).gives(1, "value", 2).gives(1, "publish");
    }

    /** The greatest number of the group: p - 1 is no square, p - 2 is one. */
    private static void partNextToP() {
        BigInteger key = Proofs.logarithmOf(BigInteger.valueOf(P - 2), base());
        Run run = Proofs.withKey("promise 14: the part is p - 2", key, 9).gives(P - 2, "says", 1, 0);
        run.leaves(0, "offer", Proofs.offerBy(run, 1, BigInteger.TEN, base(), BigInteger.valueOf(P - 1), key));
        run.gives(1, "offer", 1, 1, 0, 0, 0).gives(P - 2, "value", 2).gives(P - 2, "publish").gives(P - 2, "ended", 1);
    }

    /** A number of the group that is not the node's part, with a proof made after the rule. */
    private static void partOfAnother() {
        Run run = Setups.closed("promise 14: it holds");
        BigInteger part = base().modPow(key(2), Terms.P);
        BigInteger[] others = {base(), BigInteger.ONE, Terms.G, part.multiply(part).mod(Terms.P), part.modInverse(Terms.P)};
        for (BigInteger other : others) {
            run.leaves(0, "offer", Proofs.offerBy(run, 2, BigInteger.TEN, base(), other, key(2)));
        }
        run.gives(1, "offer", Proofs.offerBy(run, 2, BigInteger.ZERO, base(), part, key(2))).gives(part.longValue(), "says", 2, 0);
    }

    /** The proof that w makes for one node whose key comes of the seed 1, closed with 6. */
    private static BigInteger[] proofWithSix(long w) {
        BigInteger base = Terms.base(Terms.message(6, 1));
        BigInteger key = Terms.coefficient(1, 1, 0);
        return Proofs.proofBy(BigInteger.valueOf(w), base, base.modPow(key, Terms.P), key);
    }

    /** Kept as w makes it, but not with c and z so far away from it. */
    private static void checkProof(String title, long w, long[][] away) {
        BigInteger[] proof = proofWithSix(w);
        long c = proof[0].longValue();
        long z = proof[1].longValue();
        Run run = Setups.alone(title, 1).gives(1, "close", 6);
        long part = run.ask("says", 1, 0);
        for (long[] far : away) {
            run.leaves(0, "offer", Proofs.offerOf(run, 1, part, c + far[0], z + far[1]));
        }
        run.gives(1, "offer", Proofs.offerOf(run, 1, part, c, z)).gives(2, "round", 3);
    }

    private static void cAtItsEnds() {
        Run.check(proofWithSix(W_OF_C_LEAST)[0].longValue() == 0, "this w makes c 0");
        Run.check(proofWithSix(W_OF_C_MOST)[0].longValue() == Q - 1, "this w makes c q - 1");
        checkProof("promise 14: c is 0", W_OF_C_LEAST, new long[][] {{-1, 0}, {1, 0}, {Q - 1, 0}, {Q, 0}});
        checkProof("promise 14: c is q - 1", W_OF_C_MOST, new long[][] {{1, 0}, {-1, 0}, {1 - Q, 0}, {-Q, 0}, {Q, 0}});
    }

    private static void zAtItsEnds() {
        Run.check(proofWithSix(W_OF_Z_LEAST)[1].longValue() == 0, "this w makes z 0");
        Run.check(proofWithSix(W_OF_Z_MOST)[1].longValue() == Q - 1, "this w makes z q - 1");
        checkProof("promise 14: z is 0", W_OF_Z_LEAST, new long[][] {{0, -1}, {0, 1}, {0, Q - 1}, {0, Q}});
        checkProof("promise 14: z is q - 1", W_OF_Z_MOST, new long[][] {{0, 1}, {0, -1}, {0, 1 - Q}, {0, -Q}, {0, Q}});
    }

    /** q more makes the same exponent, and does not leave, but is no number of 0 .. q - 1. */
    private static void exponentsThatAreTheSame() {
        Run run = Setups.closed("promise 14: c and z are 0 .. q - 1");
        for (int k = 1; k <= 4; k++) {
            run.leaves(0, "offer", k, k, 0, Q, 0).leaves(0, "offer", k, k, 0, 0, Q).leaves(0, "offer", k, k, 0, Q, Q);
            run.leaves(0, "offer", k, k, 0, -Q, 0).leaves(0, "offer", k, k, 0, 0, -Q);
        }
        run.gives(0, "round", 3);
    }

    private static void proofOfAnotherRound() {
        Run run = Setups.closed("promise 14: what was said in the round before");
        long part = run.ask("says", 2, 0);
        long c = run.ask("says", 2, 1);
        long z = run.ask("says", 2, 2);
        run.gives(1, "offer", 1, 1, 0, 0, 0).gives(1, "offer", 2, 2, 0, 0, 0).does("publish");
        run.leaves(0, "offer", Proofs.offerOf(run, 2, part, c, z)).gives(1, "offer", 2, 2, 0, 0, 0);
    }

    private static void thereIsOneOfThatNode() {
        Run run = Setups.inRoundTwo("promise 14: there is none of that node").leaves(0, "offer", 3, 3, 0, 0, 0);
        run.leaves(0, "offer", 3, 1, 0, 0, 0).leaves(0, "offer", 3, 3, 1, 0, 0).leaves(0, "offer", 3, 3, LEAST, LEAST, LEAST);
        // Another proof of the same part holds, but there is one.
        BigInteger key = key(3).add(BigInteger.valueOf(7)).mod(Terms.Q);
        BigInteger base = BigInteger.valueOf(run.ask("round", 1));
        run.leaves(0, "offer", Proofs.offerBy(run, 3, BigInteger.TEN, base, base.modPow(key, Terms.P), key));
        run.gives(1, "offer", 4, 4, 0, 0, 0).leaves(0, "offer", 4, 4, 0, 0, 0).leaves(0, "offer", 3, 3, 0, 0, 0);
        run.does("publish").gives(1, "offer", 3, 3, 0, 0, 0).leaves(0, "offer", 3, 3, 0, 0, 0);
    }

    /** With t = 1 all keys are the same, so what one node says holds for another one, but not where a key is spoiled. */
    private static void forAnotherNode() {
        Run run = Setups.closed("promise 14: offered for another one");
        run.leaves(0, "offer", 1, 2, 0, 0, 0).leaves(0, "offer", 2, 1, 0, 0, 0).leaves(0, "offer", 4, 1, 0, 0, 0);
        run = new Run("promise 14: offered for another one, t is 1").does("begin", 4, 1).does("deal", 2, 8);
        run.does("spoil", 2, 4, 1).gives(1, "close", 0).leaves(0, "offer", 4, 1, 0, 0, 0).leaves(0, "offer", 1, 4, 0, 0, 0);
        run.gives(1, "offer", 3, 1, 0, 0, 0).gives(8, "round", 3).leaves(0, "offer", 3, 3, 0, 0, 0);
        run.leaves(0, "offer", 3, 2, 0, 0, 0).gives(1, "offer", 1, 3, 0, 0, 0).gives(10, "round", 3);
        run.gives(1, "offer", 4, 4, 0, 0, 0).gives(26, "round", 3).gives(1, "offer", 2, 2, 0, 0, 0).gives(30, "round", 3);
    }

    /** What node 1 says, with so much added that it is what node 2 would say, is kept as the part of node 2. */
    private static void forAnotherNodeByItsNumbers() {
        Run run = Setups.closed("promise 14: with these numbers added");
        long[] arguments = {2, 1, 0, 0, 0};
        for (int what = 0; what <= 2; what++) {
            arguments[2 + what] = run.ask("says", 2, what) - run.ask("says", 1, what);
        }
        for (int place = 2; place <= 4; place++) {
            long[] changed = arguments.clone();
            changed[place]++;
            run.leaves(0, "offer", changed);
        }
        run.gives(1, "offer", arguments).gives(4, "round", 3).leaves(0, "offer", 2, 2, 0, 0, 0);
        run.gives(1, "offer", 1, 1, 0, 0, 0).gives(6, "round", 3);
        run.gives(base().modPow(Terms.coefficient(11, 1, 0), Terms.P).longValue(), "publish");
    }

    private static void ofTheLastNode() {
        Run run = new Run("promise 14: the last node").does("begin", 16, 16).does("deal", 1, 1).does("close", 0);
        run.leaves(0, "offer", 16, 15, 0, 0, 0).leaves(0, "offer", 15, 16, 0, 0, 0);
        run.refuses(Run.ARGUMENT, "offer", 17, 16, 0, 0, 0).refuses(Run.ARGUMENT, "offer", 16, 17, 0, 0, 0);
        run.gives(1, "offer", 16, 16, 0, 0, 0).gives(65536, "round", 3).leaves(0, "offer", 16, 16, 0, 0, 0);
    }
}
