import java.math.BigInteger;

/** The edges of promises 10, 11 and 19, a test for each sentence that names one; the titles are the document's words. */
public final class ClosingEdgesTest {
    private static final int Q = Setups.Q;
    private static final int MOST = Setups.MOST;
    private static final int LEAST = Setups.LEAST;
    private static final long[] NO_NODE = {5, -1, 17, 32, 33, MOST, LEAST};

    public static void main(String[] args) {
        closeWhenItIsClosed();
        closeWithNobodyThatDealt();
        closeWithAllOut();
        closeWithComplaintsAboutAll();
        closeThatIsRefusedClosesNothing();
        closeWithOne();
        closeWithSixteen();
        closeWithAllValues();
        keyOfNoNode();
        keyOfWrongWhat();
        keyOfNodeZero();
        keyWhenItIsNotClosed();
        keyOfTheFirstAndTheLast();
        keyOfNodesThatAreNotQualified();
        aboutOfWrongWhat();
        aboutNothing();
        aboutAllOfSixteen();
        aboutQualifiedBeforeItIsClosed();
        Run.end();
    }

    private static void closeWhenItIsClosed() {
        Run run = Setups.closed("promise 10: it is closed").refuses(Run.STATE, "close", 9).refuses(Run.STATE, "close", 0);
        run.gives(9, "ended", 0);
        Setups.inRoundTwo("promise 10: it is closed, in a round").refuses(Run.STATE, "close", 9).gives(2, "round", 0);
    }

    private static void closeWithNobodyThatDealt() {
        new Run("promise 10: nobody would be, at first").refuses(Run.STATE, "close", 0);
        Setups.begun("promise 10: nobody would be, nobody dealt").refuses(Run.STATE, "close", 0);
        Setups.closed("promise 10: nobody would be, begun anew").does("begin", 4, 2).refuses(Run.STATE, "close", 0);
    }

    /** Answered rightly afterwards, so that it is being out alone that counts. */
    private static void closeWithAllOut() {
        Run run = Setups.begun("promise 10: nobody would be, all are out").does("deal", 2, 2).does("deal", 4, 4);
        run.does("spoil", 2, 1, 1).does("spoil", 4, 1, 1).gives(2, "complain");
        run.gives(0, "answer", 2, 1, 1).gives(0, "answer", 4, 1, 1).gives(1, "answer", 2, 1, 0).gives(1, "answer", 4, 1, 0);
        run.gives(0, "about", 3).gives(2, "about", 4).refuses(Run.STATE, "close", 0);
    }

    private static void closeWithComplaintsAboutAll() {
        Run run = Setups.begun("promise 10: nobody would be, complaints about all").does("deal", 2, 2).does("deal", 4, 4);
        run.does("spoil", 2, 1, 1).does("spoil", 4, 4, 1).gives(2, "complain").refuses(Run.STATE, "close", 0);
        // One of them is complained about by all, and by all but one afterwards.
        run.does("spoil", 2, 2, 1).does("spoil", 2, 3, 1).does("spoil", 2, 4, 1).gives(5, "complain");
        run.gives(1, "answer", 2, 1, 0).gives(1, "answer", 2, 3, 0).gives(1, "answer", 2, 4, 0).refuses(Run.STATE, "close", 0);
        run.gives(1, "answer", 2, 2, 0).gives(1, "close", 0).gives(4, "about", 6);
    }

    private static void closeThatIsRefusedClosesNothing() {
        Run run = Setups.begun("promise 10: without any nothing is closed").refuses(Run.STATE, "close", 77);
        run.refuses(Run.STATE, "round", 0).refuses(Run.STATE, "ended", 0).gives(0, "complain");
        run.does("deal", 1, 1).does("spoil", 1, 1, 1).gives(1, "complain").refuses(Run.STATE, "close", 77);
        run.gives(1, "answer", 1, 1, 0).gives(1, "close", 78).gives(78, "ended", 0);
    }

    private static void closeWithOne() {
        Run run = Setups.alone("promise 10: one of one", 3).gives(1, "close", 0).gives(2, "about", 6);
        run.gives(Terms.coefficient(3, 1, 0).longValue(), "key", 1, 0);
        new Run("promise 10: the last of sixteen").does("begin", 16, 2).does("deal", 16, 3).gives(1, "close", 0)
                .gives(65536, "about", 6).gives(Terms.share(3, 16, 16, 2).longValue(), "key", 16, 0);
    }

    private static void closeWithSixteen() {
        Run run = new Run("promise 10: sixteen of sixteen").does("begin", 16, 2);
        for (int i = 1; i <= 16; i++) {
            run.does("deal", i, i);
        }
        run.gives(0, "complain").gives(16, "close", 0).gives(16, "about", 5).gives(131070, "about", 6);
    }

    private static void closeWithAllValues() {
        long[] values = {0, 1, -1, Setups.P, 1L << 32, Long.MAX_VALUE, Long.MIN_VALUE};
        for (long zero : values) {
            Run run = Setups.alone("promise 10: the value of round 0", 3).gives(1, "close", zero).gives(zero, "ended", 0);
            run.gives(Terms.base(Terms.message(zero, 1)).longValue(), "round", 1).gives(Terms.hash(zero, 0), "random", 0);
        }
    }

    private static void keyOfNoNode() {
        Run run = Setups.closed("promise 11: no such node").refusesEach(Run.ARGUMENT, NO_NODE, 0, "key", 0, 0);
        run.refusesEach(Run.ARGUMENT, NO_NODE, 0, "key", 0, 1);
        // It is not closed either, but the exception that is named first comes.
        run = Setups.dealt("promise 11: no such node, open").refusesEach(Run.ARGUMENT, NO_NODE, 0, "key", 0, 0);
        run.refusesEach(Run.ARGUMENT, NO_NODE, 0, "key", 0, 1);
    }

    private static void keyOfWrongWhat() {
        long[] wrong = {-1, 2, 3, MOST, LEAST};
        Run run = Setups.closed("promise 11: what is 0 or 1").refusesEach(Run.ARGUMENT, wrong, 1, "key", 1, 0);
        run.refusesEach(Run.ARGUMENT, wrong, 1, "key", 0, 0);
        run = Setups.dealt("promise 11: what is 0 or 1, open").refusesEach(Run.ARGUMENT, wrong, 1, "key", 1, 0);
        run.refusesEach(Run.ARGUMENT, wrong, 1, "key", 0, 0);
    }

    private static void keyOfNodeZero() {
        new Run("promise 11: also for node 0 and 0, at first").refuses(Run.ARGUMENT, "key", 0, 0);
        Setups.dealt("promise 11: also for node 0 and 0, open").refuses(Run.ARGUMENT, "key", 0, 0);
        Run run = Setups.closed("promise 11: also for node 0 and 0").refuses(Run.ARGUMENT, "key", 0, 0);
        run.leaves(Terms.commitment(11, 1, 0).longValue(), "key", 0, 1);
    }

    private static void keyWhenItIsNotClosed() {
        new Run("promise 11: it is not closed, at first").refuses(Run.STATE, "key", 0, 1);
        Run run = Setups.dealt("promise 11: it is not closed").refuses(Run.STATE, "key", 0, 1);
        run.refuses(Run.STATE, "key", 1, 0).refuses(Run.STATE, "key", 1, 1).refuses(Run.STATE, "key", 4, 0);
        run = Setups.closed("promise 11: it is not closed, begun anew").does("key", 1, 0).does("begin", 4, 2);
        run.refuses(Run.STATE, "key", 1, 0).refuses(Run.STATE, "key", 1, 1).refuses(Run.STATE, "key", 0, 1);
    }

    private static void keyOfTheFirstAndTheLast() {
        Run run = new Run("promise 11: the first and the last node").does("begin", 16, 16).does("deal", 1, 1);
        run.does("deal", 16, 16).gives(2, "close", 0);
        for (int k = 1; k <= 16; k += 15) {
            BigInteger key = Terms.share(1, 1, k, 16).add(Terms.share(16, 16, k, 16)).mod(Terms.Q);
            run.leaves(key.longValue(), "key", k, 0).leaves(Terms.G.modPow(key, Terms.P).longValue(), "key", k, 1);
        }
    }

    /** Keys are the sums of the qualified ones' shares alone, and the spoiled one that nobody looked at counts. */
    private static void keyOfNodesThatAreNotQualified() {
        Run run = Setups.closed("promise 11: the sum of its shares of the qualified ones");
        for (int k = 1; k <= 4; k++) {
            BigInteger key = Terms.share(11, 1, k, 2).add(BigInteger.valueOf(k == 3 ? 7 : 0)).mod(Terms.Q);
            run.leaves(key.longValue(), "key", k, 0).leaves(Terms.G.modPow(key, Terms.P).longValue(), "key", k, 1);
        }
    }

    private static void aboutOfWrongWhat() {
        long[] wrong = {-1, 8, 9, MOST, LEAST};
        new Run("promise 19: what is 0 .. 7, at first").refusesEach(Run.ARGUMENT, wrong, 0, "about", 0);
        Setups.dealt("promise 19: what is 0 .. 7").refusesEach(Run.ARGUMENT, wrong, 0, "about", 0);
        Setups.inRoundTwo("promise 19: what is 0 .. 7, in a round").refusesEach(Run.ARGUMENT, wrong, 0, "about", 0);
    }

    private static void aboutNothing() {
        Run run = Setups.inRoundTwo("promise 19: begun anew").does("begin", 2, 1).leaves(2, "about", 0).leaves(1, "about", 1);
        for (int what = 2; what <= 7; what++) {
            run.leaves(0, "about", what);
        }
    }

    private static void aboutAllOfSixteen() {
        Run run = new Run("promise 19: as many as there can be").does("begin", 16, 16);
        for (int i = 1; i <= 16; i++) {
            run.does("deal", i, i).does("spoil", i, 17 - i, 1);
        }
        run.gives(16, "about", 2).gives(0, "about", 3).gives(16, "complain").gives(16, "about", 3).gives(0, "about", 4);
        for (int i = 1; i <= 16; i++) {
            run.gives(0, "answer", i, 17 - i, Q - 1).gives(i, "about", 4);
        }
        run.gives(16, "about", 3).gives(16, "about", 4).refuses(Run.STATE, "close", 0).gives(0, "about", 5);
    }

    private static void aboutQualifiedBeforeItIsClosed() {
        Run run = Setups.dealt("promise 19: 0 before it is closed").leaves(0, "about", 5).leaves(0, "about", 6);
        run.gives(1, "close", 9).leaves(1, "about", 5).leaves(2, "about", 6).does("begin", 4, 2);
        run.leaves(0, "about", 5).leaves(0, "about", 6);
    }
}
