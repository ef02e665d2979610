import java.math.BigInteger;
import java.util.List;

/** The edges of promises 12, 13 and 15 to 18, a test for each sentence that names one; the titles are its words. */
public final class RoundsEdgesTest {
    private static final int MOST = Setups.MOST;
    private static final int LEAST = Setups.LEAST;
    private static final long[] NO_NODE = Setups.NO_NODE;

    public static void main(String[] args) {
        roundWhenItIsNotClosed();
        roundOfWrongWhat();
        roundWithoutParts();
        roundWithAllParts();
        saysWhenItIsNotClosed();
        saysOfWrongArguments();
        saysOfTheFirstAndTheLast();
        valueWhenItIsNotClosed();
        valueOfOtherThanT();
        valueOfOneThatIsNotKept();
        valueOfNoNodes();
        valueOfOneAndOfAll();
        valueOfTheRoundThatGoesOn();
        publishWhenItIsNotClosed();
        publishOfLessThanT();
        publishOfJustT();
        publishByTheLeast();
        publishBeginsWithoutParts();
        publishAfterThreeHundred();
        endedBelowZero();
        endedAbove();
        endedWhenItIsNotClosed();
        endedAtTheEnds();
        Run.end();
    }

    /** The states in which it is not closed: at first, begun, dealt, refused to close, begun anew. */
    private static Run[] open(String title) {
        return new Run[] {
            new Run(title + ", at first"), Setups.begun(title + ", begun"), Setups.dealt(title + ", dealt"),
            Setups.begun(title + ", refused").refuses(Run.STATE, "close", 9),
            Setups.inRoundTwo(title + ", anew").does("begin", 4, 2)};
    }

    /** Sixteen nodes, t of them enough; the parts of all of them are kept. */
    private static Run sixteen(String title, int t) {
        Run run = new Run(title).does("begin", 16, t).does("deal", 9, 4).does("close", 1);
        for (int k = 16; k >= 1; k--) {
            run.gives(1, "offer", k, k, 0, 0, 0);
        }
        return run;
    }

    private static long valueOfSixteen() {
        BigInteger base = Terms.base(Terms.message(1, 1));
        return base.modPow(Terms.coefficient(4, 9, 0), Terms.P).longValueExact();
    }

    /** Of the state closed: round 1's value by two nodes, node 3's key being 7 too much. */
    private static long valueBy(int one, int other) {
        BigInteger base = Terms.base(Terms.message(9, 1));
        BigInteger sum = Terms.coefficient(11, 1, 0);
        if (one == 3 || other == 3) {
            BigInteger weight = Terms.weight(3, List.of(one, other));
            sum = sum.add(weight.multiply(BigInteger.valueOf(7)));
        }
        return base.modPow(sum.mod(Terms.Q), Terms.P).longValueExact();
    }

    private static void roundWhenItIsNotClosed() {
        for (Run run : open("promise 12: it is not closed")) {
            run.refuses(Run.STATE, "round", 0).refuses(Run.STATE, "round", 1).refuses(Run.STATE, "round", 2);
            // What is none of these fits too, but the exception that is named first comes.
            run.refuses(Run.STATE, "round", 3).refuses(Run.STATE, "round", 4).refuses(Run.STATE, "round", -1);
        }
    }

    private static void roundOfWrongWhat() {
        long[] wrong = {-1, 4, 5, MOST, LEAST};
        Setups.closed("promise 12: what is none of these").refusesEach(Run.ARGUMENT, wrong, 0, "round", 0);
        Setups.inRoundTwo("promise 12: what is none of these, later").refusesEach(Run.ARGUMENT, wrong, 0, "round", 0);
    }

    private static void roundWithoutParts() {
        Run run = Setups.closed("promise 12: no parts are kept").leaves(1, "round", 0).leaves(0, "round", 2).leaves(0, "round", 3);
        run.leaves(Terms.base(Terms.message(9, 1)).longValue(), "round", 1);
        Setups.inRoundTwo("promise 12: one part is kept").leaves(2, "round", 0).leaves(1, "round", 2).leaves(8, "round", 3);
    }

    private static void roundWithAllParts() {
        sixteen("promise 12: all parts are kept", 16).leaves(16, "round", 2).leaves(131070, "round", 3);
    }

    private static void saysWhenItIsNotClosed() {
        for (Run run : open("promise 13: it is not closed")) {
            run.refuses(Run.STATE, "says", 1, 0).refuses(Run.STATE, "says", 1, 2);
            // There is no such node, or what, either, but the exception that is named first comes.
            run.refuses(Run.STATE, "says", 0, 0).refuses(Run.STATE, "says", 5, 0).refuses(Run.STATE, "says", 1, 3);
        }
    }

    private static void saysOfWrongArguments() {
        long[] wrong = {-1, 3, 4, MOST, LEAST};
        Run run = Setups.inRoundTwo("promise 13: no such node, or what is not 0 .. 2");
        run.refusesEach(Run.ARGUMENT, NO_NODE, 0, "says", 0, 0).refusesEach(Run.ARGUMENT, wrong, 1, "says", 1, 0);
    }

    private static void saysOfTheFirstAndTheLast() {
        Run run = sixteen("promise 13: the first and the last node", 2);
        BigInteger base = Terms.base(Terms.message(1, 1));
        for (int k = 1; k <= 16; k += 15) {
            BigInteger key = Terms.share(4, 9, k, 2);
            BigInteger part = base.modPow(key, Terms.P);
            BigInteger[] proof = Proofs.proofBy(Terms.nonce(key, Terms.message(1, 1)), base, part, key);
            run.leaves(part.longValue(), "says", k, 0);
            run.leaves(proof[0].longValue(), "says", k, 1).leaves(proof[1].longValue(), "says", k, 2);
        }
    }

    private static void valueWhenItIsNotClosed() {
        for (Run run : open("promise 15: it is not closed")) {
            // They are not t, or not kept, either, but the exception that is named first comes.
            run.refuses(Run.STATE, "value", 6).refuses(Run.STATE, "value", 0).refuses(Run.STATE, "value", -1);
        }
    }

    private static void valueOfOtherThanT() {
        long[] wrong = {0, 2, 4, 8, 14};
        Run run = Setups.closed("promise 15: they are not t").gives(1, "offer", 1, 1, 0, 0, 0);
        run.gives(1, "offer", 2, 2, 0, 0, 0).gives(1, "offer", 3, 3, 0, 0, 0);
        run.refusesEach(Run.ARGUMENT, wrong, 0, "value", 0);
        run.leaves(valueBy(1, 2), "value", 6).leaves(valueBy(1, 3), "value", 10).leaves(valueBy(2, 3), "value", 12);
        run = sixteen("promise 15: they are one less than 16, or one more", 16);
        run.refuses(Run.ARGUMENT, "value", 131070 - 2).refuses(Run.ARGUMENT, "value", 131070 - 65536);
        run.refuses(Run.ARGUMENT, "value", 131071).refuses(Run.ARGUMENT, "value", 131070 + 131072);
        // One less than all, but 16 bits with one that is no node's.
        run.refuses(Run.ARGUMENT, "value", 131071 - 2).refuses(Run.ARGUMENT, "value", 131070 - 2 + 131072);
    }

    private static void valueOfOneThatIsNotKept() {
        Run run = Setups.closed("promise 15: the part of one is not kept").refuses(Run.ARGUMENT, "value", 6);
        run.gives(1, "offer", 1, 1, 0, 0, 0).refuses(Run.ARGUMENT, "value", 6);
        run.gives(0, "offer", 2, 2, 1, 0, 0).refuses(Run.ARGUMENT, "value", 6).gives(1, "offer", 2, 2, 0, 0, 0);
        run.leaves(valueBy(1, 2), "value", 6).refuses(Run.ARGUMENT, "value", 10).refuses(Run.ARGUMENT, "value", 24);
    }

    /** Two bits, one of them of a node that there is not: 0, 5, 17, 30 and 31 (that makes the number negative). */
    private static void valueOfNoNodes() {
        long[] wrong = {3, 2 + 32, 2 + 131072, 2 + (1 << 30), 2 + LEAST, -1, LEAST, MOST, 1, 33};
        Run run = Setups.closed("promise 15: there are no such nodes").gives(1, "offer", 1, 1, 0, 0, 0);
        run.gives(1, "offer", 2, 2, 0, 0, 0).refusesEach(Run.ARGUMENT, wrong, 0, "value", 0);
        run = Setups.alone("promise 15: there is no node but one", 1).does("close", 1).gives(1, "offer", 1, 1, 0, 0, 0);
        run.refusesEach(Run.ARGUMENT, new long[] {0, 1, 4, LEAST, 3}, 0, "value", 0).does("value", 2);
    }

    private static void valueOfOneAndOfAll() {
        Run run = sixteen("promise 15: t is 1", 1);
        for (int k = 1; k <= 16; k++) {
            run.gives(valueOfSixteen(), "value", 1L << k);
        }
        run.leaves(valueOfSixteen(), "value", 65536).refuses(Run.ARGUMENT, "value", 6).refuses(Run.ARGUMENT, "value", 0);
        sixteen("promise 15: t is 16", 16).leaves(valueOfSixteen(), "value", 131070);
        run = sixteen("promise 15: t is 15", 15);
        for (int k = 1; k <= 16; k++) {
            run.gives(valueOfSixteen(), "value", 131070 - (1 << k));
        }
    }

    private static void valueOfTheRoundThatGoesOn() {
        Run run = Setups.inRoundTwo("promise 15: of the round that goes on").refuses(Run.ARGUMENT, "value", 6);
        BigInteger base = Terms.base(Terms.message(valueBy(1, 2), 2));
        long due = base.modPow(Terms.coefficient(11, 1, 0), Terms.P).longValueExact();
        run.gives(1, "offer", 1, 1, 0, 0, 0).gives(1, "offer", 2, 2, 0, 0, 0).leaves(due, "value", 6);
    }

    private static void publishWhenItIsNotClosed() {
        for (Run run : open("promise 16: it is not closed")) {
            run.refuses(Run.STATE, "publish");
        }
    }

    private static void publishOfLessThanT() {
        Setups.closed("promise 16: no parts are kept").refuses(Run.STATE, "publish");
        Setups.inRoundTwo("promise 16: one part of two is kept").refuses(Run.STATE, "publish");
        Run run = new Run("promise 16: fifteen parts of sixteen are kept").does("begin", 16, 16).does("deal", 9, 4).does("close", 1);
        for (int k = 1; k <= 15; k++) {
            run.gives(1, "offer", k, k, 0, 0, 0);
        }
        run.refuses(Run.STATE, "publish").gives(1, "offer", 16, 16, 0, 0, 0).gives(valueOfSixteen(), "publish");
    }

    private static void publishOfJustT() {
        Run run = Setups.closed("promise 16: just t parts are kept").gives(1, "offer", 4, 4, 0, 0, 0);
        run.gives(1, "offer", 2, 2, 0, 0, 0).gives(valueBy(2, 4), "publish").gives(valueBy(2, 4), "ended", 1);
        sixteen("promise 16: all parts are kept", 16).gives(valueOfSixteen(), "publish");
        sixteen("promise 16: one part would do", 1).gives(valueOfSixteen(), "publish");
    }

    /** Node 3's key is wrong, so that it shows whether its part was used. */
    private static void publishByTheLeast() {
        Run run = Setups.closed("promise 16: the least t nodes whose parts are kept").gives(1, "offer", 4, 4, 0, 0, 0);
        run.gives(1, "offer", 3, 3, 0, 0, 0).gives(1, "offer", 2, 2, 0, 0, 0).leaves(valueBy(2, 4), "value", 20);
        run.gives(valueBy(2, 3), "publish").gives(valueBy(2, 3), "ended", 1);
        run = Setups.closed("promise 16: the least t of all").gives(1, "offer", 4, 4, 0, 0, 0).gives(1, "offer", 3, 3, 0, 0, 0);
        run.gives(1, "offer", 2, 2, 0, 0, 0).gives(1, "offer", 1, 1, 0, 0, 0).gives(valueBy(1, 2), "publish");
        run = Setups.closed("promise 16: the two that there are").gives(1, "offer", 4, 4, 0, 0, 0);
        run.gives(1, "offer", 3, 3, 0, 0, 0).gives(valueBy(3, 4), "publish");
        Run.check(valueBy(1, 2) == valueBy(2, 4) && valueBy(2, 3) != valueBy(1, 2) && valueBy(3, 4) != valueBy(1, 2),
                "it shows whether node 3's part was used");
    }

    private static void publishBeginsWithoutParts() {
        Run run = sixteen("promise 16: the next one begins without parts", 2).does("publish").gives(2, "round", 0);
        run.gives(0, "round", 2).gives(0, "round", 3).refuses(Run.STATE, "publish").refuses(Run.ARGUMENT, "value", 6);
        run.gives(Terms.base(Terms.message(valueOfSixteen(), 2)).longValue(), "round", 1).gives(1, "about", 7);
        run.gives(1, "offer", 16, 16, 0, 0, 0).gives(1, "round", 2).gives(65536, "round", 3);
    }

    /** No run of 512 calls gets as far as 300 rounds, but the promise is kept there too. */
    private static void publishAfterThreeHundred() {
        Run run = Setups.alone("promise 16: 300 rounds ended", 1).does("close", 1);
        for (int round = 1; round <= 299; round++) {
            run.gives(1, "offer", 1, 1, 0, 0, 0).does("publish");
        }
        run.gives(299, "about", 7).gives(1, "offer", 1, 1, 0, 0, 0).does("publish").gives(300, "about", 7);
        // Less than t parts are kept, and the exception that is named first comes.
        run.gives(301, "round", 0).refuses(Run.STATE, "publish");
        run.gives(1, "offer", 1, 1, 0, 0, 0).refuses(Run.UNSUPPORTED, "publish").refuses(Run.UNSUPPORTED, "publish");
        run.gives(2, "round", 3).gives(301, "round", 0).does("value", 2).does("ended", 300).refuses(Run.ARGUMENT, "ended", 301);
        run.does("begin", 1, 1).does("deal", 1, 1).does("close", 1).gives(1, "offer", 1, 1, 0, 0, 0).does("publish");
    }

    private static void endedBelowZero() {
        long[] below = {-1, -2, LEAST};
        for (Run run : open("promises 17, 18: below 0 at any time")) {
            run.refusesEach(Run.ARGUMENT, below, 0, "ended", 0).refusesEach(Run.ARGUMENT, below, 0, "random", 0);
        }
        Run run = Setups.inRoundTwo("promises 17, 18: below 0, closed").refusesEach(Run.ARGUMENT, below, 0, "ended", 0);
        run.refusesEach(Run.ARGUMENT, below, 0, "random", 0);
    }

    private static void endedAbove() {
        long[] above = {1, 2, 299, 300, 301, MOST};
        Run run = Setups.closed("promises 17, 18: above the rounds that ended").refusesEach(Run.ARGUMENT, above, 0, "ended", 0);
        run.refusesEach(Run.ARGUMENT, above, 0, "random", 0);
        run = Setups.inRoundTwo("promises 17, 18: the round that goes on").does("ended", 1).does("random", 1);
        run.refuses(Run.ARGUMENT, "ended", 2).refuses(Run.ARGUMENT, "random", 2).refuses(Run.ARGUMENT, "ended", 3);
        // Rounds of before begin() do not count any more.
        run.does("begin", 4, 2).does("deal", 1, 1).does("close", 5).gives(5, "ended", 0);
        run.refuses(Run.ARGUMENT, "ended", 1).refuses(Run.ARGUMENT, "random", 1);
    }

    private static void endedWhenItIsNotClosed() {
        for (Run run : open("promises 17, 18: it is not closed")) {
            run.refusesEach(Run.STATE, new long[] {0, 1, 300, 301, MOST}, 0, "ended", 0);
            run.refusesEach(Run.STATE, new long[] {0, 1, 300, 301, MOST}, 0, "random", 0);
        }
    }

    private static void endedAtTheEnds() {
        Run run = Setups.inRoundTwo("promises 17, 18: round 0 and the last one that ended");
        run.leaves(9, "ended", 0).leaves(valueBy(1, 2), "ended", 1);
        run.leaves(Terms.hash(9, 0), "random", 0).leaves(Terms.hash(valueBy(1, 2), 1), "random", 1);
        long[] zeros = {0, -1, Long.MAX_VALUE, Long.MIN_VALUE};
        for (long zero : zeros) {
            run = Setups.dealt("promises 17, 18: of round 0 as it was told").does("close", zero);
            run.leaves(zero, "ended", 0).leaves(Terms.hash(zero, 0), "random", 0);
        }
    }
}
