/** A beacon of random numbers that any t of n nodes can make together. */
public final class BeaconRing {
    public static final int NONE = -1;

    private static final int MOST_NODES = 16;
    private static final int MOST_ROUNDS = 300;
    private static final int MOST_SUM = 2147483647;

    private final Dealer[] dealers;
    private final int[] keys;
    private final int[] publicKeys;
    private final Rounds rounds;
    // One statement serves all calls, so that says() and offer() make no objects.
    private final Statement statement;
    private int n;
    private int t;
    private boolean closed;
    private int qualified;
    private int wholePublicKey;

    public BeaconRing() {
        // Row 0 of these stays unused: nodes are counted from 1.
        dealers = new Dealer[MOST_NODES + 1];
        for (int i = 0; i <= MOST_NODES; i++) {
            dealers[i] = new Dealer();
        }
        keys = new int[MOST_NODES + 1];
        publicKeys = new int[MOST_NODES + 1];
        rounds = new Rounds();
        statement = new Statement();
    }

    public void begin(int n, int t) throws IllegalArgumentException {
        if (n < 1 || n > MOST_NODES || t < 1 || t > n) {
            throw new IllegalArgumentException("n is not 1 .. 16, or t not 1 .. n");
        }
        this.n = n;
        this.t = t;
        closed = false;
        qualified = 0;
        for (int i = 1; i <= MOST_NODES; i++) {
            dealers[i].forget();
        }
        rounds.forget();
    }

    public void deal(int node, long seed) throws IllegalArgumentException, IllegalStateException {
        needNode(node);
        needOpen();
        if (dealers[node].hasDealt) {
            throw new IllegalStateException("the node has dealt");
        }
        dealers[node].dealBySeed(node, seed, n, t);
    }

    public int spoil(int dealer, int node, int x) throws IllegalArgumentException, IllegalStateException {
        needNode(dealer);
        needNode(node);
        needExponent(x);
        needDealt(dealer);
        needOpen();
        return dealers[dealer].addToGiven(node, x);
    }

    public int commitment(int dealer, int j) throws IllegalArgumentException, IllegalStateException {
        needNode(dealer);
        if (j < 0 || j >= t) {
            throw new IllegalArgumentException("j is not 0 .. t - 1");
        }
        needDealt(dealer);
        return dealers[dealer].commitments[j];
    }

    public int share(int dealer, int node) throws IllegalArgumentException, IllegalStateException {
        needNode(dealer);
        needNode(node);
        needDealt(dealer);
        return dealers[dealer].given[node];
    }

    public boolean isRight(int dealer, int node, int x) throws IllegalArgumentException, IllegalStateException {
        needNode(dealer);
        needNode(node);
        needExponent(x);
        needDealt(dealer);
        return dealers[dealer].isRightShare(node, x);
    }

    public int complain() throws IllegalStateException {
        needOpen();
        for (int i = 1; i <= n; i++) {
            dealers[i].gatherComplaints(n);
        }
        return countComplaints();
    }

    public boolean answer(int dealer, int node, int x) throws IllegalArgumentException, IllegalStateException {
        needNode(dealer);
        needNode(node);
        needExponent(x);
        needOpen();
        if (!dealers[dealer].hasComplaintOf(node)) {
            throw new IllegalStateException("there is no such complaint");
        }
        return dealers[dealer].answerComplaint(node, x);
    }

    public int close(long zero) throws IllegalStateException {
        needOpen();
        int bits = findQualified();
        if (bits == 0) {
            throw new IllegalStateException("nobody would be qualified");
        }
        qualified = bits;
        makeKeys();
        rounds.startFrom(zero);
        closed = true;
        return Integer.bitCount(qualified);
    }

    public int key(int node, int what) throws IllegalArgumentException, IllegalStateException {
        boolean isWhole = node == 0 && what == 1;
        if (!isWhole) {
            needNode(node);
            needWhat(what, 1);
        }
        needClosed();
        if (isWhole) {
            return wholePublicKey;
        }
        return what == 0 ? keys[node] : publicKeys[node];
    }

    public int round(int what) throws IllegalStateException, IllegalArgumentException {
        needClosed();
        switch (what) {
            case 0:
                return rounds.ended + 1;
            case 1:
                return rounds.base;
            case 2:
                return Integer.bitCount(rounds.kept);
            case 3:
                return rounds.kept;
            default:
                throw new IllegalArgumentException("what is not 0 .. 3");
        }
    }

    public int says(int node, int what) throws IllegalStateException, IllegalArgumentException {
        needClosed();
        needNode(node);
        needWhat(what, 2);
        stateFor(node);
        if (what == 0) {
            return statement.part;
        }
        return what == 1 ? statement.c : statement.z;
    }

    public boolean offer(int node, int from, int part, int c, int z)
            throws IllegalStateException, IllegalArgumentException {
        needClosed();
        needNode(node);
        needNode(from);
        if (rounds.keepsPartOf(node)) {
            return false;
        }
        stateFor(from);
        if (!statement.add(part, c, z) || !statement.holds(publicKeys[node], rounds.base)) {
            return false;
        }
        rounds.keep(node, statement.part);
        return true;
    }

    public int value(int nodes) throws IllegalStateException, IllegalArgumentException {
        needClosed();
        if (Integer.bitCount(nodes) != t || (nodes & ~rounds.kept) != 0) {
            throw new IllegalArgumentException("they are not t nodes whose parts are kept");
        }
        return rounds.combine(nodes);
    }

    public int publish() throws IllegalStateException, UnsupportedOperationException {
        needClosed();
        if (Integer.bitCount(rounds.kept) < t) {
            throw new IllegalStateException("less than t parts are kept");
        }
        if (rounds.ended >= MOST_ROUNDS) {
            throw new UnsupportedOperationException("300 rounds ended");
        }
        int result = rounds.combine(rounds.leastKept(t));
        rounds.endWith(result);
        return result;
    }

    public long ended(int round) throws IllegalArgumentException, IllegalStateException {
        needEnded(round);
        return rounds.values[round];
    }

    public long random(int round) throws IllegalArgumentException, IllegalStateException {
        needEnded(round);
        return Numbers.hash(rounds.values[round], round);
    }

    public int about(int what) throws IllegalArgumentException {
        switch (what) {
            case 0:
                return n;
            case 1:
                return t;
            case 2:
                return countDealt();
            case 3:
                return countComplaints();
            case 4:
                return countOut();
            case 5:
                return Integer.bitCount(qualified);
            case 6:
                return qualified;
            case 7:
                return rounds.ended;
            default:
                throw new IllegalArgumentException("what is not 0 .. 7");
        }
    }

    private void needNode(int node) {
        if (node < 1 || node > n) {
            throw new IllegalArgumentException("there is no such node");
        }
    }

    private void needExponent(int x) {
        if (!Numbers.isExponent(x)) {
            throw new IllegalArgumentException("the number is not 0 .. q - 1");
        }
    }

    private void needWhat(int what, int most) {
        if (what < 0 || what > most) {
            throw new IllegalArgumentException("what is none of those told");
        }
    }

    private void needDealt(int dealer) {
        if (!dealers[dealer].hasDealt) {
            throw new IllegalStateException("the dealer has not dealt");
        }
    }

    private void needOpen() {
        if (closed) {
            throw new IllegalStateException("all is closed");
        }
    }

    private void needClosed() {
        if (!closed) {
            throw new IllegalStateException("it is not closed");
        }
    }

    private void needEnded(int round) {
        if (round < 0) {
            throw new IllegalArgumentException("a round is not below 0");
        }
        needClosed();
        if (round > rounds.ended) {
            throw new IllegalArgumentException("the round has not ended");
        }
    }

    private int countDealt() {
        int count = 0;
        for (int i = 1; i <= n; i++) {
            count += dealers[i].hasDealt ? 1 : 0;
        }
        return count;
    }

    private int countComplaints() {
        int count = 0;
        for (int i = 1; i <= n; i++) {
            count += Integer.bitCount(dealers[i].complaints);
        }
        return count;
    }

    private int countOut() {
        int count = 0;
        for (int i = 1; i <= n; i++) {
            count += dealers[i].isOut ? 1 : 0;
        }
        return count;
    }

    private int findQualified() {
        int bits = 0;
        for (int i = 1; i <= n; i++) {
            if (dealers[i].mayQualify()) {
                bits |= 1 << i;
            }
        }
        return bits;
    }

    private void makeKeys() {
        wholePublicKey = 1;
        for (int i = 1; i <= n; i++) {
            if (Numbers.hasBit(qualified, i)) {
                wholePublicKey = Numbers.times(wholePublicKey, dealers[i].commitments[0]);
            }
        }
        for (int k = 1; k <= n; k++) {
            keys[k] = sumOfShares(k);
            publicKeys[k] = Numbers.power(Numbers.G, keys[k]);
        }
    }

    private int sumOfShares(int node) {
        long sum = 0;
        for (int i = 1; i <= n; i++) {
            if (Numbers.hasBit(qualified, i)) {
                sum += dealers[i].given[node];
            }
        }
        return Numbers.toExponent(sum);
    }

    private void stateFor(int node) {
        statement.state(keys[node], publicKeys[node], rounds.base, rounds.message);
    }

    /** Bits, the group modulo p, its exponents modulo q, and HASH. */
    private static final class Numbers {
        static final int P = 2147483579;
        static final int Q = 1073741789;
        static final int G = 4;

        static boolean hasBit(int bits, int k) {
            return (bits >> k & 1) != 0;
        }

        static int times(int a, int b) {
            return (int) ((long) a * b % P);
        }

        static int power(int a, int exponent) {
            int result = 1;
            for (int bit = 30; bit >= 0; bit--) {
                result = times(result, result);
                if (hasBit(exponent, bit)) {
                    result = times(result, a);
                }
            }
            return result;
        }

        /** 1 / a^c, for an a of the group: there a^q is 1. */
        static int powerBelow(int a, int c) {
            return power(a, Q - c);
        }

        static boolean isInGroup(int a) {
            return a >= 1 && a < P && power(a, Q) == 1;
        }

        static boolean isExponent(int x) {
            return x >= 0 && x < Q;
        }

        static int toExponent(long x) {
            return (int) Math.floorMod(x, (long) Q);
        }

        static long hash(long a, long b) {
            return stir(stir(0, a), b);
        }

        /** One step of HASH: h is the hash of the numbers before x. */
        static long stir(long h, long x) {
            long s = (h + x) * 6364136223846793005L + 1442695040888963407L;
            s = (s ^ (s >>> 29)) * 2862933555777941757L;
            return s ^ (s >>> 32);
        }
    }

    /** What one node dealt, and what became of it. */
    private static final class Dealer {
        final int[] commitments = new int[MOST_NODES];
        final int[] right = new int[MOST_NODES + 1];
        final int[] given = new int[MOST_NODES + 1];
        int complaints;
        boolean hasDealt;
        boolean isOut;

        /** The arrays may keep what they hold: they are read only after dealBySeed() has filled them. */
        void forget() {
            complaints = 0;
            hasDealt = false;
            isOut = false;
        }

        void dealBySeed(int self, long seed, int n, int t) {
            for (int k = 1; k <= n; k++) {
                right[k] = 0;
            }
            // From the highest coefficient down (Horner's way), so that none need be kept.
            for (int j = t - 1; j >= 0; j--) {
                int a = Numbers.toExponent(Numbers.stir(Numbers.hash(seed, self), j));
                commitments[j] = Numbers.power(Numbers.G, a);
                for (int k = 1; k <= n; k++) {
                    right[k] = Numbers.toExponent((long) right[k] * k + a);
                }
            }
            for (int k = 1; k <= n; k++) {
                given[k] = right[k];
            }
            hasDealt = true;
        }

        int addToGiven(int node, int x) {
            int before = given[node];
            given[node] = Numbers.toExponent((long) before + x);
            return before;
        }

        /**
         * The product of the commitments, each to the power of k^j, is g^right[k]; as g has the order q, no other
         * number of 0 .. q - 1 is an exponent that gives it.
         */
        boolean isRightShare(int node, int x) {
            return x == right[node];
        }

        void gatherComplaints(int n) {
            if (!hasDealt) {
                return;
            }
            for (int k = 1; k <= n; k++) {
                if (!isRightShare(k, given[k])) {
                    complaints |= 1 << k;
                }
            }
        }

        boolean hasComplaintOf(int node) {
            return Numbers.hasBit(complaints, node);
        }

        boolean answerComplaint(int node, int x) {
            int told = Numbers.toExponent((long) right[node] + x);
            if (!isRightShare(node, told)) {
                isOut = true;
                return false;
            }
            given[node] = told;
            complaints &= ~(1 << node);
            return true;
        }

        boolean mayQualify() {
            return hasDealt && !isOut && complaints == 0;
        }
    }

    /** A part with its proof: as a node says it, or as it is offered. */
    private static final class Statement {
        int part;
        int c;
        int z;

        void state(int key, int publicKey, int base, long message) {
            int w = Numbers.toExponent(Numbers.hash(key, message));
            part = Numbers.power(base, key);
            c = challenge(publicKey, base, Numbers.power(Numbers.G, w), Numbers.power(base, w));
            z = Numbers.toExponent((long) c * key + w);
        }

        /** Whether all sums stay in 0 .. 2^31 - 1; otherwise nothing is added. */
        boolean add(int toPart, int toC, int toZ) {
            if (!canAdd(part, toPart) || !canAdd(c, toC) || !canAdd(z, toZ)) {
                return false;
            }
            part += toPart;
            c += toC;
            z += toZ;
            return true;
        }

        boolean holds(int publicKey, int base) {
            if (!Numbers.isInGroup(part) || !Numbers.isExponent(c) || !Numbers.isExponent(z)) {
                return false;
            }
            int first = Numbers.times(Numbers.power(Numbers.G, z), Numbers.powerBelow(publicKey, c));
            int second = Numbers.times(Numbers.power(base, z), Numbers.powerBelow(part, c));
            return c == challenge(publicKey, base, first, second);
        }

        private int challenge(int publicKey, int base, int first, int second) {
            long h = Numbers.stir(Numbers.hash(base, publicKey), part);
            return Numbers.toExponent(Numbers.stir(Numbers.stir(h, first), second));
        }

        private static boolean canAdd(int a, int b) {
            long sum = (long) a + b;
            return sum >= 0 && sum <= MOST_SUM;
        }
    }

    /** The round that goes on, and the values of those that ended. */
    private static final class Rounds {
        final long[] values = new long[MOST_ROUNDS + 1];
        final int[] parts = new int[MOST_NODES + 1];
        // inverses[d] is 1 / d modulo q; a difference of two nodes is at most 15.
        final int[] inverses = new int[MOST_NODES];
        int ended;
        int kept;
        long message;
        int base;

        Rounds() {
            inverses[1] = 1;
            // q is (q / d) d + q mod d, so that 1 / d is -(q / d) / (q mod d).
            for (int d = 2; d < MOST_NODES; d++) {
                int negative = Numbers.Q - Numbers.Q / d;
                inverses[d] = Numbers.toExponent((long) negative * inverses[Numbers.Q % d]);
            }
        }

        void forget() {
            ended = 0;
            kept = 0;
        }

        void startFrom(long zero) {
            values[0] = zero;
            ended = 0;
            startNext();
        }

        void endWith(int result) {
            ended++;
            values[ended] = result;
            startNext();
        }

        private void startNext() {
            kept = 0;
            message = Numbers.hash(values[ended], ended + 1);
            int root = (int) Math.floorMod(message, Numbers.P - 1L) + 1;
            base = Numbers.times(root, root);
        }

        boolean keepsPartOf(int node) {
            return Numbers.hasBit(kept, node);
        }

        void keep(int node, int part) {
            parts[node] = part;
            kept |= 1 << node;
        }

        int leastKept(int t) {
            int bits = 0;
            int count = 0;
            for (int k = 1; k <= MOST_NODES && count < t; k++) {
                if (keepsPartOf(k)) {
                    bits |= 1 << k;
                    count++;
                }
            }
            return bits;
        }

        int combine(int nodes) {
            int product = 1;
            for (int k = 1; k <= MOST_NODES; k++) {
                if (Numbers.hasBit(nodes, k)) {
                    product = Numbers.times(product, Numbers.power(parts[k], weight(k, nodes)));
                }
            }
            return product;
        }

        /** L of node k among these nodes. */
        private int weight(int k, int nodes) {
            int product = 1;
            for (int m = 1; m <= MOST_NODES; m++) {
                if (m != k && Numbers.hasBit(nodes, m)) {
                    int factor = Numbers.toExponent((long) m * inverse(m - k));
                    product = Numbers.toExponent((long) product * factor);
                }
            }
            return product;
        }

        private int inverse(int difference) {
            return difference > 0 ? inverses[difference] : Numbers.Q - inverses[-difference];
        }
    }
}
