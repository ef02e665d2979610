/** The edges of promises 1 to 9, a test for each sentence that names one; the titles are the document's words. */
public final class DealingEdgesTest {
    private static final int Q = Setups.Q;
    private static final int MOST = Setups.MOST;
    private static final int LEAST = Setups.LEAST;
    private static final long[] NO_NODE = Setups.NO_NODE;
    private static final long[] NO_EXPONENT = Setups.NO_EXPONENT;

    public static void main(String[] args) {
        newObjectIsEmpty();
        newObjectHasNoNode();
        beginOfWrongN();
        beginOfWrongT();
        beginAtTheEnds();
        beginMakesAllAsAtFirst();
        beginMakesAllOfSixteenAsAtFirst();
        dealOfNoNode();
        dealOfOneThatHasDealt();
        dealWhenClosed();
        dealAtTheEnds();
        spoilOfWrongArguments();
        spoilOfOneThatHasNotDealt();
        spoilWhenClosed();
        spoilWrapsAround();
        commitmentOfWrongArguments();
        commitmentAtTheEnds();
        commitmentOfOneThatHasNotDealt();
        shareOfNoNode();
        shareAtTheEnds();
        shareOfOneThatHasNotDealt();
        isRightOfWrongArguments();
        isRightAtTheEnds();
        isRightOfOneThatHasNotDealt();
        complainOfNothing();
        complainOfAll();
        complainKeepsThoseOfBefore();
        complainAboutOneThatIsOut();
        complainWhenClosed();
        answerOfWrongArguments();
        answerWithoutSuchComplaint();
        answerWhenClosed();
        answerAtTheEnds();
        Run.end();
    }

    private static int due(long seed, int dealer, int node, int t) {
        return Terms.share(seed, dealer, node, t).intValueExact();
    }

    private static void newObjectIsEmpty() {
        Run run = new Run("promise 1: nothing is dealt");
        for (int what = 0; what <= 7; what++) {
            run.leaves(0, "about", what);
        }
        run.leaves(0, "complain").refuses(Run.STATE, "close", 0);
        run.refuses(Run.STATE, "key", 0, 1).refuses(Run.STATE, "round", 0).refuses(Run.STATE, "says", 1, 0);
        run.refuses(Run.STATE, "offer", 1, 1, 0, 0, 0).refuses(Run.STATE, "value", 0).refuses(Run.STATE, "publish");
        run.refuses(Run.STATE, "ended", 0).refuses(Run.STATE, "random", 0);
    }

    private static void newObjectHasNoNode() {
        Run run = new Run("promise 1: there is no node");
        long[] any = {0, 1, 16};
        run.refusesEach(Run.ARGUMENT, any, 0, "deal", 0, 0).refusesEach(Run.ARGUMENT, any, 0, "commitment", 0, 0);
        run.refusesEach(Run.ARGUMENT, any, 0, "spoil", 0, 1, 0).refusesEach(Run.ARGUMENT, any, 0, "share", 0, 1);
        run.refusesEach(Run.ARGUMENT, any, 0, "isRight", 0, 1, 0).refusesEach(Run.ARGUMENT, any, 0, "answer", 0, 1, 0);
        run.refusesEach(Run.ARGUMENT, any, 0, "key", 0, 0);
    }

    private static void beginOfWrongN() {
        long[] wrong = {0, 17, -1, -16, 33, MOST, LEAST};
        new Run("promise 2: n is not 1 .. 16, at first").refusesEach(Run.ARGUMENT, wrong, 0, "begin", 0, 1);
        Setups.dealt("promise 2: n is not 1 .. 16").refusesEach(Run.ARGUMENT, wrong, 0, "begin", 0, 1);
        Setups.inRoundTwo("promise 2: n is not 1 .. 16, closed").refusesEach(Run.ARGUMENT, wrong, 0, "begin", 0, 1);
        new Run("promise 2: neither n nor t").refuses(Run.ARGUMENT, "begin", 0, 0).refuses(Run.ARGUMENT, "begin", 17, 17);
    }

    private static void beginOfWrongT() {
        long[] wrongOfThree = {0, 4, -1, 17, MOST, LEAST};
        new Run("promise 2: t is not 1 .. n, at first").refusesEach(Run.ARGUMENT, wrongOfThree, 1, "begin", 3, 0);
        Setups.dealt("promise 2: t is not 1 .. n").refusesEach(Run.ARGUMENT, wrongOfThree, 1, "begin", 3, 0);
        Setups.inRoundTwo("promise 2: t is not 1 .. n, closed").refusesEach(Run.ARGUMENT, wrongOfThree, 1, "begin", 3, 0);
        new Run("promise 2: t of one").refuses(Run.ARGUMENT, "begin", 1, 0).refuses(Run.ARGUMENT, "begin", 1, 2);
        new Run("promise 2: t of sixteen").refuses(Run.ARGUMENT, "begin", 16, 0).refuses(Run.ARGUMENT, "begin", 16, 17);
    }

    private static void beginAtTheEnds() {
        long[][] pairs = {{1, 1}, {2, 1}, {2, 2}, {16, 1}, {16, 16}};
        for (long[] pair : pairs) {
            Run run = new Run("promise 2: n is 1 .. 16, t 1 .. n").does("begin", pair);
            run.gives(pair[0], "about", 0).gives(pair[1], "about", 1).does("deal", pair[0], 1);
            run.does("commitment", pair[0], pair[1] - 1).does("share", pair[0], pair[0]);
            run.refuses(Run.ARGUMENT, "deal", pair[0] + 1, 1).refuses(Run.ARGUMENT, "commitment", pair[0], pair[1]);
        }
    }

    private static void beginMakesAllAsAtFirst() {
        long[][] pairs = {{4, 2}, {1, 1}, {16, 16}};
        for (long[] pair : pairs) {
            Run fresh = new Run("promise 2: a new object").does("begin", pair);
            Setups.begun("promise 2: all is as at first, begun").does("begin", pair).looksLike(fresh);
            Setups.dealt("promise 2: all is as at first, dealt").does("begin", pair).looksLike(fresh);
            Setups.closed("promise 2: all is as at first, closed").does("begin", pair).looksLike(fresh);
            Setups.inRoundTwo("promise 2: all is as at first, in a round").does("begin", pair).looksLike(fresh);
        }
    }

    private static void beginMakesAllOfSixteenAsAtFirst() {
        Run run = new Run("promise 2: all is as at first, sixteen").does("begin", 16, 16);
        for (int i = 1; i <= 16; i++) {
            run.does("deal", i, i).does("spoil", i, i, 1);
        }
        run.gives(16, "complain");
        for (int i = 2; i <= 16; i++) {
            run.gives(0, "answer", i, i, 1);
        }
        run.gives(1, "answer", 1, 1, 0).gives(1, "close", 3);
        for (int k = 1; k <= 16; k++) {
            run.gives(1, "offer", k, k, 0, 0, 0);
        }
        run.does("begin", 16, 16).looksLike(new Run("promise 2: a new object").does("begin", 16, 16));
    }

    private static void dealOfNoNode() {
        Setups.begun("promise 3: no such node").refusesEach(Run.ARGUMENT, NO_NODE, 0, "deal", 0, 1);
        Setups.dealt("promise 3: no such node, dealt").refusesEach(Run.ARGUMENT, NO_NODE, 0, "deal", 0, 1);
        // Being closed fits too, but the exception that is named first comes.
        Setups.closed("promise 3: no such node, closed").refusesEach(Run.ARGUMENT, NO_NODE, 0, "deal", 0, 1);
    }

    private static void dealOfOneThatHasDealt() {
        Run run = Setups.dealt("promise 3: it has dealt");
        run.refuses(Run.STATE, "deal", 1, 11).refuses(Run.STATE, "deal", 1, 99);
        run.refuses(Run.STATE, "deal", 2, 12).refuses(Run.STATE, "deal", 3, 13).refuses(Run.STATE, "deal", 3, 0);
        run.does("deal", 4, 14).refuses(Run.STATE, "deal", 4, 14).gives(4, "about", 2);
        run.does("begin", 4, 2).does("deal", 1, 99).gives(due(99, 1, 4, 2), "share", 1, 4);
    }

    private static void dealWhenClosed() {
        Run run = Setups.closed("promise 3: all is closed");
        run.refuses(Run.STATE, "deal", 4, 14).refuses(Run.STATE, "deal", 1, 11).refuses(Run.STATE, "deal", 3, 13);
        Setups.inRoundTwo("promise 3: all is closed, in a round").refuses(Run.STATE, "deal", 4, 14);
    }

    private static void dealAtTheEnds() {
        Run run = new Run("promise 3: the first and the last node, all seeds").does("begin", 16, 3);
        run.does("deal", 1, Long.MIN_VALUE).does("deal", 16, Long.MAX_VALUE).does("deal", 2, 0).does("deal", 3, -1);
        for (int k = 1; k <= 16; k++) {
            run.gives(due(Long.MIN_VALUE, 1, k, 3), "share", 1, k).gives(due(Long.MAX_VALUE, 16, k, 3), "share", 16, k);
            run.gives(due(0, 2, k, 3), "share", 2, k).gives(due(-1, 3, k, 3), "share", 3, k);
        }
    }

    private static void spoilOfWrongArguments() {
        Run run = Setups.dealt("promise 4: no such node, or x is not 0 .. q - 1");
        run.refusesEach(Run.ARGUMENT, NO_NODE, 0, "spoil", 0, 1, 1).refusesEach(Run.ARGUMENT, NO_NODE, 1, "spoil", 1, 0, 1);
        run.refusesEach(Run.ARGUMENT, NO_EXPONENT, 2, "spoil", 1, 1, 0);
        // Node 4 has not dealt, but the exception that is named first comes.
        run.refusesEach(Run.ARGUMENT, NO_EXPONENT, 2, "spoil", 4, 1, 0).refuses(Run.ARGUMENT, "spoil", 4, 5, 1);
        run = Setups.closed("promise 4: wrong arguments, closed").refuses(Run.ARGUMENT, "spoil", 0, 1, 1);
        run.refuses(Run.ARGUMENT, "spoil", 1, 5, 1).refusesEach(Run.ARGUMENT, NO_EXPONENT, 2, "spoil", 1, 1, 0);
    }

    private static void spoilOfOneThatHasNotDealt() {
        Setups.begun("promise 4: the dealer has not dealt, nobody has").refuses(Run.STATE, "spoil", 1, 1, 1);
        Run run = Setups.dealt("promise 4: the dealer has not dealt").refuses(Run.STATE, "spoil", 4, 1, 1);
        run.refuses(Run.STATE, "spoil", 4, 4, 0).does("deal", 4, 14).gives(due(14, 4, 1, 2), "spoil", 4, 1, 1);
    }

    private static void spoilWhenClosed() {
        Run run = Setups.closed("promise 4: all is closed");
        run.refuses(Run.STATE, "spoil", 1, 1, 1).refuses(Run.STATE, "spoil", 1, 1, 0).refuses(Run.STATE, "spoil", 2, 4, 1);
        run.refuses(Run.STATE, "spoil", 4, 1, 1);
    }

    private static void spoilWrapsAround() {
        long share = due(11, 1, 1, 2);
        Run run = Setups.dealt("promise 4: x more, modulo q").leaves(share, "spoil", 1, 1, 0);
        run.gives(share, "spoil", 1, 1, Q - 1 - share).gives(Q - 1, "share", 1, 1);
        run.gives(Q - 1, "spoil", 1, 1, 1).gives(0, "share", 1, 1);
        run.gives(0, "spoil", 1, 1, Q - 1).gives(Q - 1, "share", 1, 1);
        run.gives(Q - 1, "spoil", 1, 1, Q - 1).gives(Q - 2, "share", 1, 1);
        run.gives(due(11, 1, 2, 2), "share", 1, 2).gives(due(12, 2, 1, 2), "share", 2, 1);
    }

    private static void commitmentOfWrongArguments() {
        // t is 2 here, so that a j below n but not below t is among them.
        long[] wrong = {-1, 2, 3, 4, 16, MOST, LEAST};
        Run run = Setups.dealt("promise 5: j is not 0 .. t - 1").refusesEach(Run.ARGUMENT, wrong, 1, "commitment", 1, 0);
        run.refusesEach(Run.ARGUMENT, NO_NODE, 0, "commitment", 0, 0);
        // Node 4 has not dealt, but the exception that is named first comes.
        run.refusesEach(Run.ARGUMENT, wrong, 1, "commitment", 4, 0);
        Setups.closed("promise 5: j, closed").refusesEach(Run.ARGUMENT, wrong, 1, "commitment", 1, 0);
        // A greater t of before does not count any more.
        run = new Run("promise 5: j of a t of before").does("begin", 16, 16).does("deal", 1, 1).does("begin", 16, 3);
        run.does("deal", 1, 1).does("commitment", 1, 2).refuses(Run.ARGUMENT, "commitment", 1, 3);
        run.refuses(Run.ARGUMENT, "commitment", 1, 15);
    }

    private static void commitmentAtTheEnds() {
        for (int t = 1; t <= 16; t += 5) {
            Run run = new Run("promise 5: the first and the last j").does("begin", 16, t).does("deal", 16, 21);
            run.leaves(Terms.commitment(21, 16, 0).longValue(), "commitment", 16, 0);
            run.leaves(Terms.commitment(21, 16, t - 1).longValue(), "commitment", 16, t - 1);
            run.refuses(Run.ARGUMENT, "commitment", 16, t);
        }
    }

    private static void commitmentOfOneThatHasNotDealt() {
        Setups.begun("promise 5: it has not dealt, nobody has").refuses(Run.STATE, "commitment", 1, 0);
        Setups.dealt("promise 5: it has not dealt").refuses(Run.STATE, "commitment", 4, 0);
        Run run = Setups.closed("promise 5: it has not dealt, closed").refuses(Run.STATE, "commitment", 4, 1);
        // Being out or complained about takes nothing away.
        run.gives(Terms.commitment(12, 2, 1).longValue(), "commitment", 2, 1);
        run.gives(Terms.commitment(13, 3, 0).longValue(), "commitment", 3, 0);
    }

    private static void shareOfNoNode() {
        Run run = Setups.dealt("promise 6: no such node").refusesEach(Run.ARGUMENT, NO_NODE, 0, "share", 0, 1);
        run.refusesEach(Run.ARGUMENT, NO_NODE, 1, "share", 1, 0).refusesEach(Run.ARGUMENT, NO_NODE, 1, "share", 4, 0);
        Setups.closed("promise 6: no such node, closed").refusesEach(Run.ARGUMENT, NO_NODE, 1, "share", 1, 0);
    }

    private static void shareAtTheEnds() {
        Run run = new Run("promise 6: the first and the last node").does("begin", 16, 16).does("deal", 16, 8).does("deal", 1, 9);
        run.leaves(due(8, 16, 1, 16), "share", 16, 1).leaves(due(8, 16, 16, 16), "share", 16, 16);
        run.leaves(due(9, 1, 1, 16), "share", 1, 1).leaves(due(9, 1, 16, 16), "share", 1, 16);
    }

    private static void shareOfOneThatHasNotDealt() {
        Setups.begun("promise 6: the dealer has not dealt, nobody has").refuses(Run.STATE, "share", 1, 1);
        Setups.dealt("promise 6: the dealer has not dealt").refuses(Run.STATE, "share", 4, 1);
        Run run = Setups.closed("promise 6: the dealer has not dealt, closed").refuses(Run.STATE, "share", 4, 1);
        run.gives(due(12, 2, 4, 2) + 5, "share", 2, 4).gives(due(13, 3, 1, 2) + 6, "share", 3, 1);
    }

    private static void isRightOfWrongArguments() {
        Run run = Setups.dealt("promise 7: no such node, or x is not 0 .. q - 1");
        run.refusesEach(Run.ARGUMENT, NO_NODE, 0, "isRight", 0, 1, 1).refusesEach(Run.ARGUMENT, NO_NODE, 1, "isRight", 1, 0, 1);
        run.refusesEach(Run.ARGUMENT, NO_EXPONENT, 2, "isRight", 1, 1, 0);
        run.refusesEach(Run.ARGUMENT, NO_EXPONENT, 2, "isRight", 4, 1, 0);
        run = Setups.closed("promise 7: wrong arguments, closed").refusesEach(Run.ARGUMENT, NO_NODE, 1, "isRight", 1, 0, 1);
        run.refusesEach(Run.ARGUMENT, NO_EXPONENT, 2, "isRight", 1, 1, 0);
    }

    /** Right shares of 0 and of q - 1; q more or less of them is not asked about but refused. */
    private static void isRightAtTheEnds() {
        Run run = Setups.alone("promise 7: the right share is 0", Setups.seedFor(0, 1, 0)).leaves(1, "isRight", 1, 1, 0);
        run.leaves(0, "isRight", 1, 1, Q - 1).leaves(0, "isRight", 1, 1, 1).refuses(Run.ARGUMENT, "isRight", 1, 1, Q);
        run = Setups.alone("promise 7: the right share is q - 1", Setups.seedFor(-1, 1, 0)).leaves(1, "isRight", 1, 1, Q - 1);
        run.leaves(0, "isRight", 1, 1, 0).leaves(0, "isRight", 1, 1, Q - 2).refuses(Run.ARGUMENT, "isRight", 1, 1, -1);
    }

    private static void isRightOfOneThatHasNotDealt() {
        Setups.begun("promise 7: the dealer has not dealt, nobody has").refuses(Run.STATE, "isRight", 1, 1, 0);
        Setups.dealt("promise 7: the dealer has not dealt").refuses(Run.STATE, "isRight", 4, 1, 0);
        Run run = Setups.closed("promise 7: the dealer has not dealt, closed").refuses(Run.STATE, "isRight", 4, 1, 0);
        run.gives(1, "isRight", 2, 4, due(12, 2, 4, 2)).gives(0, "isRight", 2, 4, due(12, 2, 4, 2) + 5);
    }

    private static void complainOfNothing() {
        new Run("promise 8: nobody is there").leaves(0, "complain");
        Setups.begun("promise 8: nobody dealt").leaves(0, "complain");
        Run run = Setups.begun("promise 8: all shares are right").does("deal", 1, 1).does("deal", 4, 4).leaves(0, "complain");
        run.does("spoil", 1, 2, 0).leaves(0, "complain");
        run.does("spoil", 1, 2, 1).does("spoil", 1, 2, Q - 1).leaves(0, "complain").gives(0, "about", 3);
    }

    private static void complainOfAll() {
        Run run = new Run("promise 8: all complain about all").does("begin", 16, 16);
        for (int dealer = 1; dealer <= 16; dealer++) {
            run.does("deal", dealer, dealer);
            for (int node = 1; node <= 16; node++) {
                run.does("spoil", dealer, node, 1);
            }
        }
        run.gives(0, "about", 3).gives(256, "complain").gives(256, "about", 3).leaves(256, "complain");
        run.refuses(Run.STATE, "close", 0).gives(1, "answer", 16, 16, 0).gives(1, "answer", 1, 1, 0).gives(254, "complain");
    }

    private static void complainKeepsThoseOfBefore() {
        Run run = Setups.dealt("promise 8: those of before that are not answered too").gives(2, "about", 3);
        run.gives(3, "complain").leaves(3, "complain");
        // The shares are right again, but the complaints have not been answered.
        run.does("spoil", 1, 3, Q - 7).does("spoil", 2, 4, Q - 5).does("spoil", 3, 1, Q - 6).leaves(3, "complain");
        run.gives(1, "answer", 1, 3, 0).leaves(2, "complain").gives(1, "answer", 2, 4, 0).leaves(1, "complain");
        run.gives(1, "answer", 3, 1, 0).leaves(0, "complain");
        run.does("spoil", 1, 3, 7).gives(0, "about", 3).gives(1, "complain");
    }

    private static void complainAboutOneThatIsOut() {
        Run run = Setups.dealt("promise 8: all their shares, of one that is out too").does("spoil", 1, 3, Q - 7);
        run.leaves(2, "complain").does("spoil", 3, 2, 1).does("spoil", 3, 4, 1).gives(4, "complain").gives(1, "about", 4);
        run.gives(1, "answer", 3, 2, 0).gives(3, "complain").gives(1, "about", 4);
    }

    private static void complainWhenClosed() {
        Setups.closed("promise 8: all is closed").refuses(Run.STATE, "complain").gives(2, "about", 3);
        Setups.inRoundTwo("promise 8: all is closed, in a round").refuses(Run.STATE, "complain");
    }

    private static void answerOfWrongArguments() {
        Run run = Setups.dealt("promise 9: no such node, or x is not 0 .. q - 1");
        run.refusesEach(Run.ARGUMENT, NO_NODE, 0, "answer", 0, 4, 0).refusesEach(Run.ARGUMENT, NO_NODE, 1, "answer", 2, 0, 0);
        run.refusesEach(Run.ARGUMENT, NO_EXPONENT, 2, "answer", 2, 4, 0);
        // There is no such complaint either, but the exception that is named first comes.
        run.refusesEach(Run.ARGUMENT, NO_EXPONENT, 2, "answer", 1, 1, 0).refuses(Run.ARGUMENT, "answer", 4, 5, 0);
        run = Setups.closed("promise 9: wrong arguments, closed").refusesEach(Run.ARGUMENT, NO_NODE, 0, "answer", 0, 4, 0);
        run.refusesEach(Run.ARGUMENT, NO_EXPONENT, 2, "answer", 2, 4, 0);
    }

    private static void answerWithoutSuchComplaint() {
        Setups.begun("promise 9: there is no such complaint, nobody dealt").refuses(Run.STATE, "answer", 1, 1, 0);
        Run run = Setups.dealt("promise 9: there is no such complaint").refuses(Run.STATE, "answer", 4, 1, 0);
        run.refuses(Run.STATE, "answer", 2, 1, 0).refuses(Run.STATE, "answer", 2, 3, 0).refuses(Run.STATE, "answer", 1, 4, 0);
        // Its share is spoiled, but nobody has looked.
        run.refuses(Run.STATE, "answer", 1, 3, 0).refuses(Run.STATE, "answer", 1, 3, 1);
        run.gives(1, "answer", 2, 4, 0).refuses(Run.STATE, "answer", 2, 4, 0).refuses(Run.STATE, "answer", 2, 4, 1);
    }

    private static void answerWhenClosed() {
        Run run = Setups.closed("promise 9: all is closed").refuses(Run.STATE, "answer", 2, 4, 0);
        run.refuses(Run.STATE, "answer", 2, 4, 1).refuses(Run.STATE, "answer", 3, 1, 0).refuses(Run.STATE, "answer", 1, 1, 0);
    }

    private static void answerAtTheEnds() {
        long share = due(12, 2, 4, 2);
        Run run = Setups.dealt("promise 9: its share and 0 more").gives(1, "answer", 2, 4, 0).gives(share, "share", 2, 4);
        run.gives(1, "about", 3).gives(1, "about", 4).gives(2, "close", 0);
        long[] wrong = {1, 5, Q - 5, Q - 1};
        for (long x : wrong) {
            run = Setups.dealt("promise 9: otherwise the dealer is out").gives(0, "answer", 2, 4, x);
            run.gives(share + 5, "share", 2, 4).gives(2, "about", 3).gives(2, "about", 4).leaves(0, "answer", 2, 4, x);
            run.gives(1, "answer", 2, 4, 0).gives(1, "about", 3).gives(2, "about", 4).gives(1, "close", 0).gives(2, "about", 6);
        }
    }
}
