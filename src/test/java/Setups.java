/** States that many tests begin with; each has something of all kinds, so that a change would show. */
final class Setups {
    static final int P = 2147483579;
    static final int Q = 1073741789;
    static final int MOST = Integer.MAX_VALUE;
    static final int LEAST = Integer.MIN_VALUE;

    /** What is no node among four. */
    static final long[] NO_NODE = {0, 5, -1, 17, 32, 33, MOST, LEAST};
    /** What is not 0 .. q - 1. */
    static final long[] NO_EXPONENT = {-1, Q, -Q, P, MOST, LEAST};

    private Setups() {
    }

    /** Four nodes, two of them enough; nobody has dealt. */
    static Run begun(String title) {
        return new Run(title).does("begin", 4, 2);
    }

    /**
     * Nodes 1, 2 and 3 dealt by the seeds 11, 12 and 13, node 4 did not. Node 4 complains about dealer 2, node 1 about
     * dealer 3, which is out; node 3's share of dealer 1 is spoiled, but nobody has looked.
     */
    static Run dealt(String title) {
        Run run = begun(title).does("deal", 1, 11).does("deal", 2, 12).does("deal", 3, 13);
        run.does("spoil", 2, 4, 5).does("spoil", 3, 1, 6).gives(2, "complain").gives(0, "answer", 3, 1, 1);
        return run.does("spoil", 1, 3, 7);
    }

    /** As dealt, then closed with 9: dealer 1 is qualified alone. */
    static Run closed(String title) {
        return dealt(title).gives(1, "close", 9);
    }

    /** As closed, then round 1 ended by the parts of 1 and 2, and in round 2 the part of 3 is kept. */
    static Run inRoundTwo(String title) {
        Run run = closed(title).gives(1, "offer", 1, 1, 0, 0, 0).gives(1, "offer", 2, 2, 0, 0, 0).does("publish");
        return run.gives(1, "offer", 3, 3, 0, 0, 0);
    }

    /** One node that dealt by this seed. */
    static Run alone(String title, long seed) {
        return new Run(title).does("begin", 1, 1).does("deal", 1, seed);
    }

    /** The seed by which this dealer's coefficient j is made from this hash. */
    static long seedFor(long hash, int dealer, int j) {
        return Terms.firstOf(hash, dealer, j);
    }
}
