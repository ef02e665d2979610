import java.math.BigInteger;
import java.util.ArrayList;
import java.util.List;
import java.util.Map;
import java.util.Set;
import java.util.TreeMap;
import java.util.TreeSet;

/** The document once more, with the library's collections and big integers: what BeaconRing is held against. */
final class Model {
    private static final class Dealing {
        long seed;
        boolean out;
        final Map<Integer, BigInteger> shares = new TreeMap<>();
        final Set<Integer> complaints = new TreeSet<>();
    }

    private int n;
    private int t;
    private final Map<Integer, Dealing> dealings = new TreeMap<>();
    private final Set<Integer> qualified = new TreeSet<>();
    private final List<Long> values = new ArrayList<>();
    private final Map<Integer, BigInteger> parts = new TreeMap<>();

    void begin(int n, int t) {
        argument(n >= 1 && n <= 16 && t >= 1 && t <= n);
        this.n = n;
        this.t = t;
        dealings.clear();
        qualified.clear();
        values.clear();
        parts.clear();
    }

    void deal(int node, long seed) {
        argument(isNode(node));
        state(!dealings.containsKey(node) && !isClosed());
        Dealing dealing = new Dealing();
        dealing.seed = seed;
        for (int k = 1; k <= n; k++) {
            dealing.shares.put(k, Terms.share(seed, node, k, t));
        }
        dealings.put(node, dealing);
    }

    int spoil(int dealer, int node, int x) {
        argument(isNode(dealer) && isNode(node) && isExponent(x));
        state(dealings.containsKey(dealer) && !isClosed());
        BigInteger before = dealings.get(dealer).shares.get(node);
        dealings.get(dealer).shares.put(node, before.add(BigInteger.valueOf(x)).mod(Terms.Q));
        return before.intValueExact();
    }

    int commitment(int dealer, int j) {
        argument(isNode(dealer) && j >= 0 && j < t);
        state(dealings.containsKey(dealer));
        return Terms.commitment(dealings.get(dealer).seed, dealer, j).intValueExact();
    }

    int share(int dealer, int node) {
        argument(isNode(dealer) && isNode(node));
        state(dealings.containsKey(dealer));
        return dealings.get(dealer).shares.get(node).intValueExact();
    }

    boolean isRight(int dealer, int node, int x) {
        argument(isNode(dealer) && isNode(node) && isExponent(x));
        state(dealings.containsKey(dealer));
        return Terms.isRight(dealings.get(dealer).seed, dealer, node, t, BigInteger.valueOf(x));
    }

    int complain() {
        state(!isClosed());
        dealings.forEach((dealer, dealing) -> dealing.shares.forEach((node, share) -> {
            if (!Terms.isRight(dealing.seed, dealer, node, t, share)) {
                dealing.complaints.add(node);
            }
        }));
        return about(3);
    }

    boolean answer(int dealer, int node, int x) {
        argument(isNode(dealer) && isNode(node) && isExponent(x));
        state(!isClosed() && dealings.containsKey(dealer) && dealings.get(dealer).complaints.contains(node));
        Dealing dealing = dealings.get(dealer);
        BigInteger told = Terms.share(dealing.seed, dealer, node, t).add(BigInteger.valueOf(x)).mod(Terms.Q);
        boolean right = Terms.isRight(dealing.seed, dealer, node, t, told);
        if (right) {
            dealing.shares.put(node, told);
            dealing.complaints.remove(node);
        } else {
            dealing.out = true;
        }
        return right;
    }

    int close(long zero) {
        state(!isClosed());
        Set<Integer> found = new TreeSet<>(dealings.keySet());
        found.removeIf(dealer -> dealings.get(dealer).out || !dealings.get(dealer).complaints.isEmpty());
        state(!found.isEmpty());
        qualified.addAll(found);
        values.add(zero);
        return qualified.size();
    }

    int key(int node, int what) {
        argument(node == 0 && what == 1 || isNode(node) && (what == 0 || what == 1));
        state(isClosed());
        if (node == 0) {
            BigInteger product = BigInteger.ONE;
            for (int dealer : qualified) {
                product = product.multiply(BigInteger.valueOf(commitment(dealer, 0))).mod(Terms.P);
            }
            return product.intValueExact();
        }
        return (what == 0 ? keyOf(node) : publicOf(node)).intValueExact();
    }

    int round(int what) {
        state(isClosed());
        argument(what >= 0 && what <= 3);
        return new int[] {values.size(), base().intValueExact(), parts.size(), bits(parts.keySet())}[what];
    }

    int says(int node, int what) {
        state(isClosed());
        argument(isNode(node) && what >= 0 && what <= 2);
        return statement(node)[what].intValueExact();
    }

    boolean offer(int node, int from, int part, int c, int z) {
        state(isClosed());
        argument(isNode(node) && isNode(from));
        BigInteger[] offered = statement(from);
        long[] more = {part, c, z};
        for (int i = 0; i < 3; i++) {
            offered[i] = offered[i].add(BigInteger.valueOf(more[i]));
            if (offered[i].signum() < 0 || offered[i].bitLength() > 31) {
                return false;
            }
        }
        if (parts.containsKey(node)
                || !Terms.holds(base(), publicOf(node), offered[0], offered[1], offered[2])) {
            return false;
        }
        parts.put(node, offered[0]);
        return true;
    }

    int value(int nodes) {
        state(isClosed());
        List<Integer> chosen = new ArrayList<>();
        for (int k = 0; k < 32; k++) {
            if ((nodes >>> k) % 2 != 0) {
                chosen.add(k);
            }
        }
        argument(chosen.size() == t && parts.keySet().containsAll(chosen));
        return combine(chosen);
    }

    int publish() {
        state(isClosed() && parts.size() >= t);
        if (values.size() > 300) {
            throw new UnsupportedOperationException();
        }
        int result = combine(new ArrayList<>(parts.keySet()).subList(0, t));
        values.add((long) result);
        parts.clear();
        return result;
    }

    long ended(int round) {
        argument(round >= 0);
        state(isClosed());
        argument(round < values.size());
        return values.get(round);
    }

    long random(int round) {
        return Terms.hash(ended(round), round);
    }

    int about(int what) {
        argument(what >= 0 && what <= 7);
        int complaints = dealings.values().stream().mapToInt(d -> d.complaints.size()).sum();
        int out = (int) dealings.values().stream().filter(d -> d.out).count();
        int rounds = isClosed() ? values.size() - 1 : 0;
        int[] all = {n, t, dealings.size(), complaints, out, qualified.size(), bits(qualified), rounds};
        return all[what];
    }

    private boolean isClosed() {
        return !values.isEmpty();
    }

    private boolean isNode(int node) {
        return node >= 1 && node <= n;
    }

    private static boolean isExponent(int x) {
        return x >= 0 && BigInteger.valueOf(x).compareTo(Terms.Q) < 0;
    }

    private static void argument(boolean fits) {
        if (!fits) {
            throw new IllegalArgumentException();
        }
    }

    private static void state(boolean fits) {
        if (!fits) {
            throw new IllegalStateException();
        }
    }

    private static int bits(Set<Integer> nodes) {
        return nodes.stream().mapToInt(k -> 1 << k).sum();
    }

    private BigInteger keyOf(int node) {
        BigInteger sum = BigInteger.ZERO;
        for (int dealer : qualified) {
            sum = sum.add(dealings.get(dealer).shares.get(node));
        }
        return sum.mod(Terms.Q);
    }

    private BigInteger publicOf(int node) {
        return Terms.G.modPow(keyOf(node), Terms.P);
    }

    private long message() {
        return Terms.message(values.get(values.size() - 1), values.size());
    }

    private BigInteger base() {
        return Terms.base(message());
    }

    private BigInteger[] statement(int node) {
        BigInteger key = keyOf(node);
        BigInteger base = base();
        BigInteger w = Terms.nonce(key, message());
        BigInteger part = base.modPow(key, Terms.P);
        BigInteger c = Terms.challenge(base, publicOf(node), part, Terms.G.modPow(w, Terms.P),
                base.modPow(w, Terms.P));
        return new BigInteger[] {part, c, w.add(c.multiply(key)).mod(Terms.Q)};
    }

    private int combine(List<Integer> nodes) {
        BigInteger product = BigInteger.ONE;
        for (int k : nodes) {
            product = product.multiply(parts.get(k).modPow(Terms.weight(k, nodes), Terms.P)).mod(Terms.P);
        }
        return product.intValueExact();
    }
}
