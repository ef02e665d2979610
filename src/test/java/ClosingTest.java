import java.math.BigInteger;

/** Promises 10, 11 and 19 in ordinary runs: close, key, about. */
public final class ClosingTest {
    private static final int Q = 1073741789;

    public static void main(String[] args) {
        close();
        closeWithoutComplaints();
        key();
        keyOfSixteen();
        about();
        Run.end();
    }

    private static void close() {
        Run run = new Run("promise 10").refuses(Run.STATE, "close", 0).does("begin", 4, 2).refuses(Run.STATE, "close", 0);
        run.does("deal", 1, 1).does("spoil", 1, 1, 1).gives(1, "complain").refuses(Run.STATE, "close", 0);
        run.gives(0, "answer", 1, 1, 1).refuses(Run.STATE, "close", 0);
        run.gives(1, "answer", 1, 1, 0).refuses(Run.STATE, "close", 0);
        run.does("deal", 2, 2).does("deal", 3, 3).does("deal", 4, 4).does("spoil", 3, 2, 1).gives(1, "complain");
        run.gives(0, "about", 5).gives(0, "about", 6).gives(2, "close", Long.MIN_VALUE);
        run.gives(2, "about", 5).gives(20, "about", 6).gives(1, "about", 3).gives(Long.MIN_VALUE, "ended", 0);
        run.refuses(Run.STATE, "close", 0).gives(Long.MIN_VALUE, "ended", 0).gives(1, "round", 0);
    }

    private static void closeWithoutComplaints() {
        Run run = new Run("promise 10, nobody looked").does("begin", 2, 2).does("deal", 2, 7).does("spoil", 2, 1, 3);
        int share = Terms.share(7, 2, 1, 2).intValueExact();
        run.gives(1, "close", -1).gives(4, "about", 6).gives(share + 3, "key", 1, 0);
        int open = Terms.G.modPow(BigInteger.valueOf(share + 3), Terms.P).intValueExact();
        run.gives(open, "key", 1, 1).gives(Terms.commitment(7, 2, 0).intValueExact(), "key", 0, 1);
    }

    private static void key() {
        Run run = new Run("promise 11").does("begin", 3, 2).does("deal", 1, 1).does("deal", 2, 2).does("deal", 3, 3);
        run.refuses(Run.STATE, "key", 1, 0).refuses(Run.STATE, "key", 0, 1).refuses(Run.ARGUMENT, "key", 0, 0);
        run.refuses(Run.ARGUMENT, "key", 4, 0).refuses(Run.ARGUMENT, "key", 1, 2);
        run.does("spoil", 2, 1, 1).gives(1, "complain").gives(2, "close", 0);
        for (int k = 1; k <= 3; k++) {
            BigInteger sum = Terms.share(1, 1, k, 2).add(Terms.share(3, 3, k, 2)).mod(Terms.Q);
            run.gives(sum.intValueExact(), "key", k, 0).gives(Terms.G.modPow(sum, Terms.P).intValueExact(), "key", k, 1);
        }
        BigInteger whole = Terms.commitment(1, 1, 0).multiply(Terms.commitment(3, 3, 0)).mod(Terms.P);
        run.gives(whole.intValueExact(), "key", 0, 1).refuses(Run.ARGUMENT, "key", 0, 0).refuses(Run.ARGUMENT, "key", 0, 2);
        run.refuses(Run.ARGUMENT, "key", -1, 1).refuses(Run.ARGUMENT, "key", 4, 1).refuses(Run.ARGUMENT, "key", 1, -1);
        run.refuses(Run.ARGUMENT, "key", 1, 2).refuses(Run.ARGUMENT, "key", 0, -1);
    }

    private static void keyOfSixteen() {
        Run run = new Run("promise 11, sixteen").does("begin", 16, 16);
        BigInteger sum = BigInteger.ZERO;
        BigInteger whole = BigInteger.ONE;
        for (int i = 1; i <= 16; i++) {
            run.does("deal", i, -i);
            sum = sum.add(Terms.share(-i, i, 16, 16));
            whole = whole.multiply(Terms.commitment(-i, i, 0)).mod(Terms.P);
        }
        run.gives(0, "complain").gives(16, "close", 3).gives(131070, "about", 6);
        run.gives(sum.mod(Terms.Q).intValueExact(), "key", 16, 0).gives(whole.intValueExact(), "key", 0, 1);
    }

    private static void about() {
        Run run = new Run("promise 19").does("begin", 5, 1);
        run.gives(5, "about", 0).gives(1, "about", 1).gives(0, "about", 2);
        run.does("deal", 5, 1).does("deal", 2, 1).does("deal", 4, 1).gives(3, "about", 2);
        run.does("spoil", 5, 1, Q - 1).does("spoil", 5, 5, 1).does("spoil", 4, 3, 1).gives(0, "about", 3);
        run.gives(3, "complain").gives(3, "about", 3).gives(0, "about", 4).gives(0, "answer", 5, 1, 1).gives(1, "about", 4);
        run.gives(0, "answer", 4, 3, 1).gives(2, "about", 4).gives(0, "about", 5).gives(0, "about", 6);
        run.gives(1, "close", 1).gives(1, "about", 5).gives(4, "about", 6).gives(0, "about", 7);
        run.gives(1, "offer", 3, 3, 0, 0, 0).does("publish").gives(1, "about", 7);
        run.gives(1, "offer", 3, 3, 0, 0, 0).does("publish").gives(2, "about", 7).gives(3, "about", 2);
        run.refuses(Run.ARGUMENT, "about", -1).refuses(Run.ARGUMENT, "about", 8);
        run.refuses(Run.ARGUMENT, "about", Integer.MAX_VALUE).refuses(Run.ARGUMENT, "about", Integer.MIN_VALUE);
    }
}
