import java.math.BigInteger;
import java.util.ArrayDeque;
import java.util.ArrayList;
import java.util.Deque;
import java.util.HashSet;
import java.util.List;
import java.util.Map;
import java.util.Set;
import java.util.TreeMap;

/** The document written a second time, with the Java library and no thought of speed, to be compared with the class. */
final class PlainModel {
    static final int BAD = -1, NONE = -2, FULL = -3;
    private static final BigInteger WORD = BigInteger.ONE.shiftLeft(64);

    record Head(int number, int height, long parent, int set, int next, long root, Set<Integer> signed) {
        long sum() {
            return pair(pair(pair(height, parent), pair(set, next)), root);
        }
    }

    static final class Client {
        List<Head> kept = new ArrayList<>();
        int cost = 0, by = NONE, at = NONE;
    }

    private final List<int[]> sets = new ArrayList<>();
    private final List<Head> heads = new ArrayList<>();
    private final int[] terms = {1, 3, 50, 4};
    private final List<Client> clients = List.of(new Client(), new Client(), new Client(), new Client());
    private final List<TreeMap<Integer, Head>> givers =
        List.of(new TreeMap<>(), new TreeMap<>(), new TreeMap<>(), new TreeMap<>());
    private final long[] leaves = new long[8];
    private int proofA = 0, proofB = 1;
    private long valueA = 0, valueB = 0;
    private TreeMap<Integer, Long> proofNodes = nodesBeside(0, 1);

    private static BigInteger cut(BigInteger x) {
        return x.mod(WORD);
    }

    private static BigInteger of(long x) {
        return cut(BigInteger.valueOf(x));
    }

    private static BigInteger stir(BigInteger x, int by, String times) {
        return cut(x.xor(x.shiftRight(by)).multiply(new BigInteger(times, 16)));
    }

    static long mix(long v) {
        return stir(stir(stir(of(v), 30, "BF58476D1CE4E5B9"), 27, "94D049BB133111EB"), 31, "1").longValue();
    }

    static long pair(long a, long b) {
        BigInteger sum = of(mix(a)).add(of(mix(b)).multiply(BigInteger.valueOf(3))).add(new BigInteger("9E3779B97F4A7C15", 16));
        return mix(cut(sum).longValue());
    }

    private static boolean in(long x, long least, long most) {
        return x >= least && x <= most;
    }

    private boolean isHead(int k) {
        return in(k, 0, heads.size() - 1);
    }

    private boolean isSet(int k) {
        return in(k, 0, sets.size() - 1);
    }

    int set(long a, long b) {
        int[] weights = new int[10];
        for (int i = 0; i < 10; i++) {
            BigInteger bits = of(i < 5 ? a : b).shiftRight(i % 5 * 7);
            weights[i] = bits.mod(BigInteger.valueOf(128)).intValue();
            if (weights[i] > 100) {
                return BAD;
            }
        }
        if (of(a).bitLength() > 35 || of(b).bitLength() > 35) {
            return BAD;
        }
        if (sets.size() == 16) {
            return FULL;
        }
        sets.add(weights);
        return sets.size() - 1;
    }

    int head(int height, long parent, int set, int next, long root) {
        if (!in(height, 0, 100000) || !isSet(set) || !isSet(next)) {
            return BAD;
        }
        if (heads.size() == 60) {
            return FULL;
        }
        heads.add(new Head(heads.size(), height, parent, set, next, root, new HashSet<>()));
        return heads.size() - 1;
    }

    int sign(int head, int node) {
        return !isHead(head) || !in(node, 0, 9) ? BAD : heads.get(head).signed().add(node) ? 1 : 0;
    }

    int term(int what, int v) {
        int[][] ranges = {{1, 10}, {1, 10}, {1, 1000}, {2, 10}};
        if (!in(what, 0, 3) || !in(v, ranges[what][0], ranges[what][1])) {
            return BAD;
        }
        int was = terms[what];
        terms[what] = v;
        return was;
    }

    long digest(int head) {
        return isHead(head) ? heads.get(head).sum() : 0;
    }

    private boolean outweighs(Head h, int set, int times, int timesAll) {
        int some = 0, all = 0;
        for (int node = 0; node < 10; node++) {
            all += sets.get(set)[node];
            some += h.signed().contains(node) ? sets.get(set)[node] : 0;
        }
        return times * some > timesAll * all;
    }

    private boolean certified(Head h) {
        return outweighs(h, h.set(), 3, 2);
    }

    private boolean overlaps(Head h, int set) {
        return outweighs(h, set, terms[1], terms[0]);
    }

    int certified(int head) {
        return !isHead(head) ? BAD : certified(heads.get(head)) ? 1 : 0;
    }

    int overlaps(int head, int set) {
        return !isHead(head) || !isSet(set) ? BAD : overlaps(heads.get(head), set) ? 1 : 0;
    }

    int start(int client, int head) {
        if (!in(client, 0, 3) || !isHead(head)) {
            return BAD;
        }
        Client c = clients.get(client);
        c.kept = new ArrayList<>(List.of(heads.get(head)));
        c.cost = 0;
        c.by = NONE;
        c.at = NONE;
        return 1;
    }

    /** 0: it would be stored. */
    private int reason(Head trusted, Head h) {
        boolean step = h.height() == trusted.height() + 1;
        boolean[] so = {
            false,
            h.height() <= trusted.height(),
            step && h.parent() != trusted.sum(),
            step && h.set() != trusted.next(),
            step && !certified(h),
        };
        for (int i = 1; i < so.length; i++) {
            if (so[i]) {
                return i;
            }
        }
        if (step) {
            return 0;
        }
        return h.height() > trusted.height() + terms[2] ? 5 : !certified(h) ? 4 : !overlaps(h, trusted.next()) ? 6 : 0;
    }

    private Head last(Client c) {
        return c.kept.get(c.kept.size() - 1);
    }

    private int attempt(Client c, Head h) {
        int reason = reason(last(c), h);
        if (reason == 0) {
            c.kept.add(h);
            while (c.kept.size() > terms[3]) {
                c.kept.remove(1);
            }
        }
        return reason;
    }

    private int refused(Client c, int by, int at) {
        c.by = by;
        c.at = at;
        return -10 - by;
    }

    int follow(int client, int head) {
        if (!in(client, 0, 3) || !isHead(head)) {
            return BAD;
        }
        Client c = clients.get(client);
        if (c.kept.isEmpty()) {
            return NONE;
        }
        int reason = attempt(c, heads.get(head));
        return reason == 0 ? 1 : refused(c, reason, heads.get(head).height());
    }

    int give(int giver, int head) {
        if (!in(giver, 0, 3) || !isHead(head)) {
            return BAD;
        }
        Head was = givers.get(giver).put(heads.get(head).height(), heads.get(head));
        return was == null ? NONE : was.number();
    }

    int seek(int client, int giver, int height) {
        if (!in(client, 0, 3) || !in(giver, 0, 3) || !in(height, 0, 100000)) {
            return BAD;
        }
        Client c = clients.get(client);
        if (c.kept.isEmpty()) {
            return NONE;
        }
        Deque<Integer> pile = new ArrayDeque<>(List.of(height));
        while (!pile.isEmpty()) {
            Head h = givers.get(giver).get(pile.peek());
            c.cost++;
            int reason = h == null ? 7 : attempt(c, h);
            if (reason == 0) {
                pile.pop();
            } else if (reason == 5 || reason == 6) {
                pile.push((last(c).height() + pile.peek()) / 2);
            } else {
                return refused(c, reason, pile.peek());
            }
        }
        return 1;
    }

    int stored(int client, int k) {
        if (!in(client, 0, 3) || k < -1) {
            return BAD;
        }
        List<Head> kept = clients.get(client).kept;
        return k == -1 ? kept.size() : k < kept.size() ? kept.get(k).number() : NONE;
    }

    int client(int client, int what) {
        if (!in(client, 0, 3) || !in(what, 0, 2)) {
            return BAD;
        }
        Client c = clients.get(client);
        return new int[] {c.cost, c.by, c.at}[what];
    }

    int compare(int a, int b) {
        if (!in(a, 0, 3) || !in(b, 0, 3)) {
            return BAD;
        }
        for (Map.Entry<Integer, Head> e : givers.get(a).entrySet()) {
            Head other = givers.get(b).get(e.getKey());
            if (other != null && other.sum() != e.getValue().sum()) {
                return e.getKey();
            }
        }
        return NONE;
    }

    int blame(int client, int a, int b) {
        if (!in(client, 0, 3)) {
            return BAD;
        }
        int height = compare(a, b);
        if (height < 0) {
            return height;
        }
        List<Head> below = clients.get(client).kept.stream().filter(h -> h.height() < height).toList();
        if (below.isEmpty()) {
            return NONE;
        }
        Head trusted = below.get(below.size() - 1);
        return (reason(trusted, givers.get(a).get(height)) == 0 ? 1 : 0)
            + (reason(trusted, givers.get(b).get(height)) == 0 ? 2 : 0);
    }

    long leaf(int k, long v) {
        if (!in(k, 0, 7)) {
            return 0;
        }
        long was = leaves[k];
        leaves[k] = v;
        return was;
    }

    long tree(int k) {
        if (!in(k, 1, 15)) {
            return 0;
        }
        return k >= 8 ? mix(leaves[k - 8]) : pair(tree(2 * k), tree(2 * k + 1));
    }

    private static boolean reaches(int node, int leafNode) {
        return leafNode >= node && (leafNode == node || reaches(node, leafNode / 2));
    }

    /** The greatest subtrees without one of the two leaves. */
    private TreeMap<Integer, Long> nodesBeside(int a, int b) {
        TreeMap<Integer, Long> found = new TreeMap<>();
        gather(1, a + 8, b + 8, found);
        return found;
    }

    private void gather(int node, int a, int b, TreeMap<Integer, Long> found) {
        if (!reaches(node, a) && !reaches(node, b)) {
            found.put(node, tree(node));
        } else if (node < 8) {
            gather(2 * node, a, b, found);
            gather(2 * node + 1, a, b, found);
        }
    }

    int prove(int a, int b) {
        if (!in(a, 0, 7) || !in(b, 0, 7) || a == b) {
            return BAD;
        }
        proofA = a;
        proofB = b;
        valueA = leaves[a];
        valueB = leaves[b];
        proofNodes = nodesBeside(a, b);
        return proofNodes.size();
    }

    private Integer proofNode(int k) {
        List<Integer> order = new ArrayList<>(proofNodes.descendingKeySet());
        return in(k, 4, 3L + order.size()) ? order.get(k - 4) : null;
    }

    long proof(int k) {
        if (in(k, 0, 3)) {
            return new long[] {proofA, proofB, valueA, valueB}[k];
        }
        Integer node = proofNode(k);
        return node == null ? 0 : proofNodes.get(node);
    }

    int alter(int k, long v) {
        if (k == 2) {
            valueA = v;
        } else if (k == 3) {
            valueB = v;
        } else {
            Integer node = proofNode(k);
            if (node == null) {
                return BAD;
            }
            proofNodes.put(node, v);
        }
        return 1;
    }

    private long top(int node, long ofA, long ofB) {
        if (proofNodes.containsKey(node)) {
            return proofNodes.get(node);
        }
        if (node >= 8) {
            return mix(node == 8 + proofA ? ofA : ofB);
        }
        return pair(top(2 * node, ofA, ofB), top(2 * node + 1, ofA, ofB));
    }

    /** The root that a head behind the step should have, if the proof is true. */
    long rootBehind(long amount) {
        boolean moves = valueA >= 0 && valueA >= amount;
        return top(1, moves ? valueA - amount : valueA, moves ? valueB + amount : valueB);
    }

    int fraud(int before, int head, long amount) {
        if (!isHead(before) || !isHead(head) || amount < 1) {
            return BAD;
        }
        if (top(1, valueA, valueB) != heads.get(before).root()) {
            return NONE;
        }
        return rootBehind(amount) == heads.get(head).root() ? 0 : 1;
    }

    private static BigInteger choices(int n, int k) {
        BigInteger above = BigInteger.ONE, below = BigInteger.ONE;
        for (int i = 0; i < k; i++) {
            above = above.multiply(BigInteger.valueOf(n - i));
            below = below.multiply(BigInteger.valueOf(i + 1));
        }
        return k > n ? BigInteger.ZERO : above.divide(below);
    }

    long chance(int n, int m, int s, int side) {
        if (!in(n, 1, 60) || !in(m, 0, n) || !in(s, 0, n) || !in(side, 0, 1)) {
            return BAD;
        }
        BigInteger above = choices(n - m, s), below = choices(n, s);
        return (side == 0 ? above : below).divide(above.gcd(below)).longValueExact();
    }

    int samples(int n, int m, int of) {
        if (!in(n, 1, 60) || !in(m, 0, n) || !in(of, 1, 1000000)) {
            return BAD;
        }
        for (int s = 0; s <= n; s++) {
            if (choices(n - m, s).multiply(BigInteger.valueOf(of)).compareTo(choices(n, s)) <= 0) {
                return s;
            }
        }
        return NONE;
    }

    int told(int what) {
        return !in(what, 0, 5) ? BAD : what == 0 ? sets.size() : what == 1 ? heads.size() : terms[what - 2];
    }
}
