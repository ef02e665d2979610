import java.math.BigInteger;

/** Promises 2 to 9 in ordinary runs: begin, deal, spoil, commitment, share, isRight, complain, answer. */
public final class DealingTest {
    private static final int Q = 1073741789;

    public static void main(String[] args) {
        termsAgreeWithKnownNumbers();
        begin();
        beginAnew();
        deal();
        spoil();
        commitment();
        share();
        isRight();
        complain();
        answer();
        answerOfOneThatIsOut();
        Run.end();
    }

    /** Terms are what the other tests trust, so they are held against numbers that were worked out elsewhere. */
    private static void termsAgreeWithKnownNumbers() {
        Run.check(Terms.hash(9, 0) == -3268759015032823480L, "HASH(9, 0)");
        Run.check(Terms.commitment(77, 1, 0).intValue() == 414330854, "commitment 0 of seed 77");
        Run.check(Terms.commitment(77, 1, 1).intValue() == 324914578, "commitment 1 of seed 77");
        Run.check(Terms.share(77, 1, 3, 2).intValue() == 487318305, "node 3's share of seed 77");
        Run.check(Terms.P.isProbablePrime(50) && Terms.Q.isProbablePrime(50), "p and q are prime");
    }

    private static int due(long seed, int dealer, int node, int t) {
        return Terms.share(seed, dealer, node, t).intValueExact();
    }

    private static void begin() {
        Run run = new Run("promise 2");
        run.refuses(Run.ARGUMENT, "begin", 0, 0).refuses(Run.ARGUMENT, "begin", 0, 1);
        run.refuses(Run.ARGUMENT, "begin", 17, 1).refuses(Run.ARGUMENT, "begin", -1, -1);
        run.refuses(Run.ARGUMENT, "begin", 3, 0).refuses(Run.ARGUMENT, "begin", 3, 4);
        run.refuses(Run.ARGUMENT, "begin", Integer.MAX_VALUE, 1).refuses(Run.ARGUMENT, "begin", 3, Integer.MIN_VALUE);
        run.does("begin", 1, 1).gives(1, "about", 0).gives(1, "about", 1);
        run.does("begin", 16, 1).gives(16, "about", 0).gives(1, "about", 1);
        run.does("begin", 16, 16).gives(16, "about", 0).gives(16, "about", 1);
        run.does("deal", 16, 1).refuses(Run.ARGUMENT, "begin", 2, 3).gives(1, "about", 2).gives(16, "about", 0);
    }

    private static void beginAnew() {
        Run run = new Run("promise 2, anew");
        run.does("begin", 3, 2).does("deal", 1, 1).does("deal", 2, 2).does("deal", 3, 3);
        run.does("spoil", 2, 1, 1).does("spoil", 3, 1, 1).gives(2, "complain").gives(0, "answer", 2, 1, 1);
        run.gives(1, "close", 5).gives(1, "offer", 1, 1, 0, 0, 0).gives(1, "offer", 3, 3, 0, 0, 0).does("publish");
        run.gives(1, "offer", 1, 1, 0, 0, 0).does("begin", 3, 2);
        for (int what = 2; what <= 7; what++) {
            run.gives(0, "about", what);
        }
        run.refuses(Run.STATE, "round", 0).refuses(Run.STATE, "ended", 0).refuses(Run.STATE, "share", 1, 1);
        run.refuses(Run.STATE, "key", 1, 0).gives(0, "complain").does("deal", 2, 9).gives(due(9, 2, 1, 2), "share", 2, 1);
        run.gives(0, "complain").gives(1, "close", 6).gives(1, "round", 0).gives(0, "round", 3).gives(6, "ended", 0);
    }

    private static void deal() {
        Run run = new Run("promise 3").does("begin", 16, 16);
        run.refuses(Run.ARGUMENT, "deal", 0, 1).refuses(Run.ARGUMENT, "deal", 17, 1);
        run.refuses(Run.ARGUMENT, "deal", -1, 1).does("deal", 16, Long.MIN_VALUE).does("deal", 1, Long.MAX_VALUE);
        for (int k = 1; k <= 16; k++) {
            run.gives(due(Long.MIN_VALUE, 16, k, 16), "share", 16, k);
            run.gives(due(Long.MAX_VALUE, 1, k, 16), "share", 1, k);
            run.gives(Terms.commitment(Long.MIN_VALUE, 16, k - 1).intValueExact(), "commitment", 16, k - 1);
        }
        run.refuses(Run.STATE, "deal", 16, 2).refuses(Run.STATE, "deal", 16, Long.MIN_VALUE).gives(2, "about", 2);
        run.does("close", 1).refuses(Run.STATE, "deal", 2, 2).refuses(Run.STATE, "deal", 16, 2);
        run.refuses(Run.ARGUMENT, "deal", 17, 2);
    }

    private static void spoil() {
        int share = due(5, 2, 1, 2);
        Run run = new Run("promise 4").does("begin", 3, 2).does("deal", 2, 5);
        run.refuses(Run.ARGUMENT, "spoil", 0, 1, 1).refuses(Run.ARGUMENT, "spoil", 4, 1, 1);
        run.refuses(Run.ARGUMENT, "spoil", 2, 0, 1).refuses(Run.ARGUMENT, "spoil", 2, 4, 1);
        run.refuses(Run.ARGUMENT, "spoil", 2, 1, -1).refuses(Run.ARGUMENT, "spoil", 2, 1, Q);
        run.refuses(Run.STATE, "spoil", 1, 1, 1).refuses(Run.ARGUMENT, "spoil", 1, 1, -1);
        run.gives(share, "spoil", 2, 1, 7).gives(share + 7, "share", 2, 1).gives(due(5, 2, 2, 2), "share", 2, 2);
        run.gives(share + 7, "spoil", 2, 1, Q - 1).gives(share + 6, "share", 2, 1);
        run.gives(share + 6, "spoil", 2, 1, 0).gives(share + 6, "spoil", 2, 1, Q - share - 6).gives(0, "share", 2, 1);
        run.gives(0, "spoil", 2, 1, Q - 1).gives(Q - 1, "share", 2, 1);
        run.does("close", 1).refuses(Run.STATE, "spoil", 2, 1, 1).refuses(Run.ARGUMENT, "spoil", 2, 1, Q);
    }

    private static void commitment() {
        Run run = new Run("promise 5").does("begin", 3, 2).does("deal", 3, -8);
        run.gives(Terms.commitment(-8, 3, 0).intValueExact(), "commitment", 3, 0);
        run.gives(Terms.commitment(-8, 3, 1).intValueExact(), "commitment", 3, 1);
        run.refuses(Run.ARGUMENT, "commitment", 3, 2).refuses(Run.ARGUMENT, "commitment", 3, -1);
        run.refuses(Run.ARGUMENT, "commitment", 0, 0).refuses(Run.ARGUMENT, "commitment", 4, 0);
        run.refuses(Run.STATE, "commitment", 1, 0).refuses(Run.ARGUMENT, "commitment", 1, 2);
        run.does("spoil", 3, 1, 5).does("close", 1);
        run.gives(Terms.commitment(-8, 3, 0).intValueExact(), "commitment", 3, 0);
        run.refuses(Run.STATE, "commitment", 1, 0);
    }

    private static void share() {
        Run run = new Run("promise 6").does("begin", 3, 3).does("deal", 1, 40);
        for (int k = 1; k <= 3; k++) {
            run.gives(due(40, 1, k, 3), "share", 1, k);
        }
        run.refuses(Run.ARGUMENT, "share", 1, 0).refuses(Run.ARGUMENT, "share", 1, 4);
        run.refuses(Run.ARGUMENT, "share", 0, 1).refuses(Run.ARGUMENT, "share", 4, 1);
        run.refuses(Run.STATE, "share", 2, 1).refuses(Run.ARGUMENT, "share", 2, 4);
        run.does("close", 1).gives(due(40, 1, 2, 3), "share", 1, 2).refuses(Run.STATE, "share", 2, 1);
    }

    private static void isRight() {
        int share = due(40, 1, 2, 3);
        Run run = new Run("promise 7").does("begin", 3, 3).does("deal", 1, 40);
        run.gives(1, "isRight", 1, 2, share).gives(0, "isRight", 1, 2, share + 1).gives(0, "isRight", 1, 2, share - 1);
        run.gives(0, "isRight", 1, 3, share).gives(0, "isRight", 1, 2, 0).gives(0, "isRight", 1, 2, Q - 1);
        run.refuses(Run.ARGUMENT, "isRight", 1, 2, Q).refuses(Run.ARGUMENT, "isRight", 1, 2, -1);
        run.refuses(Run.ARGUMENT, "isRight", 1, 0, 1).refuses(Run.ARGUMENT, "isRight", 1, 4, 1);
        run.refuses(Run.ARGUMENT, "isRight", 0, 1, 1).refuses(Run.ARGUMENT, "isRight", 4, 1, 1);
        run.refuses(Run.STATE, "isRight", 2, 1, 1).refuses(Run.ARGUMENT, "isRight", 2, 1, Q);
        run.does("spoil", 1, 2, 1).gives(1, "isRight", 1, 2, share).gives(0, "isRight", 1, 2, share + 1);
        run.does("close", 1).gives(1, "isRight", 1, 2, share);
        Run.check(Terms.isRight(40, 1, 2, 3, BigInteger.valueOf(share)), "the share is right by the commitments");
    }

    private static void complain() {
        Run run = new Run("promise 8").does("begin", 3, 2).gives(0, "complain");
        run.does("deal", 1, 1).does("deal", 2, 2).gives(0, "complain").gives(0, "about", 3);
        run.does("spoil", 1, 1, 1).does("spoil", 1, 3, 0).gives(0, "about", 3).gives(1, "complain").gives(1, "about", 3);
        run.does("spoil", 1, 1, Q - 1).gives(1, "isRight", 1, 1, due(1, 1, 1, 2)).gives(1, "complain");
        run.does("spoil", 2, 2, 5).does("spoil", 2, 3, 5).gives(3, "complain").gives(3, "complain");
        run.gives(1, "answer", 1, 1, 0).gives(2, "complain").gives(0, "answer", 2, 2, 9).gives(2, "complain");
        run.does("spoil", 2, 1, 5).gives(3, "complain").does("spoil", 1, 1, 1).gives(4, "complain");
        run.gives(1, "answer", 1, 1, 0).gives(1, "close", 1).refuses(Run.STATE, "complain").gives(3, "about", 3);
    }

    private static void answer() {
        int share = due(1, 1, 2, 2);
        Run run = new Run("promise 9").does("begin", 3, 2).does("deal", 1, 1).does("deal", 3, 3).does("spoil", 1, 2, 4);
        run.refuses(Run.STATE, "answer", 1, 2, 0).gives(1, "complain");
        run.refuses(Run.ARGUMENT, "answer", 1, 2, -1).refuses(Run.ARGUMENT, "answer", 1, 2, Q);
        run.refuses(Run.ARGUMENT, "answer", 0, 2, 0).refuses(Run.ARGUMENT, "answer", 4, 2, 0);
        run.refuses(Run.ARGUMENT, "answer", 1, 0, 0).refuses(Run.ARGUMENT, "answer", 1, 4, 0);
        run.refuses(Run.STATE, "answer", 1, 1, 0).refuses(Run.STATE, "answer", 3, 2, 0);
        run.refuses(Run.STATE, "answer", 2, 2, 0).refuses(Run.ARGUMENT, "answer", 1, 1, Q);
        run.gives(share + 4, "share", 1, 2).gives(1, "answer", 1, 2, 0).gives(share, "share", 1, 2);
        run.gives(0, "about", 3).gives(0, "about", 4).refuses(Run.STATE, "answer", 1, 2, 0).gives(0, "complain");
        run.does("spoil", 3, 1, 1).gives(1, "complain").gives(1, "close", 1);
        run.refuses(Run.STATE, "answer", 3, 1, 0).refuses(Run.ARGUMENT, "answer", 3, 1, Q);
    }

    private static void answerOfOneThatIsOut() {
        int share = due(1, 1, 2, 2);
        Run run = new Run("promise 9, out").does("begin", 3, 2).does("deal", 1, 1).does("deal", 2, 2);
        run.does("spoil", 1, 2, 4).does("spoil", 1, 3, 4).gives(2, "complain");
        // The spoiled share is no answer: the number is counted from the share that the polynomial gives.
        run.gives(0, "answer", 1, 2, 4).gives(1, "about", 4).gives(2, "about", 3).gives(share + 4, "share", 1, 2);
        run.gives(0, "answer", 1, 3, Q - 4).gives(1, "about", 4).gives(2, "about", 3);
        run.gives(1, "answer", 1, 2, 0).gives(1, "about", 3).gives(share, "share", 1, 2).gives(1, "answer", 1, 3, 0);
        run.gives(0, "about", 3).gives(1, "about", 4).gives(1, "close", 1).gives(4, "about", 6);
    }
}
