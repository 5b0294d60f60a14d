/** Light clients of a long chain, their givers, a proof of a false step, and the chances of samples. */
public final class LightChecks {
    public static final int BAD = -1, NONE = -2, FULL = -3;

    private static final int MOST_SETS = 16;
    private static final int MOST_HEADS = 60;
    private static final int MOST_ROWS = 10;
    private static final int CLIENTS = 4;
    private static final int GIVERS = 4;
    private static final int SIGNERS = 10;
    private static final int HIGHEST = 100000;

    private static final int WEIGHT_BITS = 7;
    private static final int WEIGHT_MASK = 127;
    private static final int WEIGHTS_IN_A_LONG = 5;
    private static final int GREATEST_WEIGHT = 100;

    private static final int ABOVE = 0;
    private static final int BELOW = 1;
    private static final int SPAN = 2;
    private static final int ROWS = 3;
    private static final int TERMS = 4;
    private static final int[] LEAST_TERM = {1, 1, 1, 2};
    private static final int[] GREATEST_TERM = {10, 10, 1000, 10};

    // What a head may be refused by, with the document's numbers.
    private static final int FITS = 0;
    private static final int NOT_HIGHER = 1;
    private static final int OTHER_PARENT = 2;
    private static final int OTHER_SET = 3;
    private static final int NOT_CERTIFIED = 4;
    private static final int TOO_FAR = 5;
    private static final int NO_OVERLAP = 6;
    private static final int NOT_GIVEN = 7;
    private static final int REFUSED = -10;

    // Each height put on the pile halves the way at least, so 17 stand on it at most.
    private static final int PILE_ROOM = 32;
    // A giver has 60 heads at most, so a seek stores 60 times and puts 77 heights on the pile at most.
    private static final int MOST_TRIES = 1000000;

    private static final int LEAVES = 8;
    private static final int TREE_ROOM = 2 * LEAVES;
    private static final int TREE_LEVELS = 4;
    private static final int TOP = 1;
    private static final int MOST_PROOF_NODES = 4;
    // The number by which proof() and alter() call the first node.
    private static final int FIRST_NODE = 4;

    private static final int MOST_PIECES = 60;
    private static final int GREATEST_OF = 1000000;
    // Euclid needs fewer than 100 steps for any two longs.
    private static final int MOST_DIVISIONS = 200;

    private final WeightSet[] sets = new WeightSet[MOST_SETS];
    private int setCount = 0;
    private final HeadRow heads = new HeadRow(MOST_HEADS);
    private final int[] terms = {1, 3, 50, 4};
    private final Client[] clients = new Client[CLIENTS];
    private final Giver[] givers = new Giver[GIVERS];
    private final int[] pile = new int[PILE_ROOM];
    private final Tree theTree = new Tree();
    private final Proof theProof = new Proof();

    public LightChecks() {
        for (int i = 0; i < CLIENTS; i++) {
            clients[i] = new Client();
        }
        for (int i = 0; i < GIVERS; i++) {
            givers[i] = new Giver();
        }
        theProof.take(theTree, 0, 1);
    }

    // ---- sets and heads

    public int set(long a, long b) {
        if (!holdsWeights(a) || !holdsWeights(b)) {
            return BAD;
        }
        if (setCount >= MOST_SETS) {
            return FULL;
        }
        sets[setCount] = new WeightSet(setCount, a, b);
        setCount++;
        return setCount - 1;
    }

    public int head(int height, long parent, int set, int next, long root) {
        WeightSet own = setAt(set);
        WeightSet following = setAt(next);
        if (!isHeight(height) || own == null || following == null) {
            return BAD;
        }
        if (heads.isFull()) {
            return FULL;
        }
        int number = heads.size;
        heads.add(new Head(number, height, parent, own, following, root));
        return number;
    }

    public int sign(int head, int node) {
        Head signed = heads.at(head);
        if (signed == null || node < 0 || node >= SIGNERS) {
            return BAD;
        }
        int bit = 1 << node;
        if ((signed.signers & bit) != 0) {
            return 0;
        }
        signed.signers |= bit;
        return 1;
    }

    public int term(int what, int v) {
        if (what < 0 || what >= TERMS || v < LEAST_TERM[what] || v > GREATEST_TERM[what]) {
            return BAD;
        }
        int before = terms[what];
        terms[what] = v;
        return before;
    }

    public long digest(int head) {
        Head asked = heads.at(head);
        return asked == null ? 0 : asked.fingerprint;
    }

    public int certified(int head) {
        Head asked = heads.at(head);
        if (asked == null) {
            return BAD;
        }
        return isCertified(asked) ? 1 : 0;
    }

    public int overlaps(int head, int set) {
        Head asked = heads.at(head);
        WeightSet with = setAt(set);
        if (asked == null || with == null) {
            return BAD;
        }
        return doesOverlap(asked, with) ? 1 : 0;
    }

    // ---- clients and givers

    public int start(int client, int head) {
        Client begun = clientAt(client);
        Head first = heads.at(head);
        if (begun == null || first == null) {
            return BAD;
        }
        begun.begin(first);
        return 1;
    }

    public int follow(int client, int head) {
        Client follower = clientAt(client);
        Head tried = heads.at(head);
        if (follower == null || tried == null) {
            return BAD;
        }
        Head trusted = follower.trusted();
        if (trusted == null) {
            return NONE;
        }
        int why = refusal(trusted, tried);
        if (why != FITS) {
            return follower.refuse(why, tried.height);
        }
        follower.keep(tried, terms[ROWS]);
        return 1;
    }

    public int give(int giver, int head) {
        Giver owner = giverAt(giver);
        Head given = heads.at(head);
        if (owner == null || given == null) {
            return BAD;
        }
        Head before = owner.replace(given);
        return before == null ? NONE : before.number;
    }

    public int seek(int client, int giver, int height) {
        Client seeker = clientAt(client);
        Giver source = giverAt(giver);
        if (seeker == null || source == null || !isHeight(height)) {
            return BAD;
        }
        if (seeker.trusted() == null) {
            return NONE;
        }
        return climb(seeker, source, height);
    }

    public int stored(int client, int k) {
        Client asked = clientAt(client);
        if (asked == null || k < -1) {
            return BAD;
        }
        if (k == -1) {
            return asked.rows.size;
        }
        Head kept = asked.rows.at(k);
        return kept == null ? NONE : kept.number;
    }

    public int client(int client, int what) {
        Client asked = clientAt(client);
        if (asked == null || what < 0 || what > 2) {
            return BAD;
        }
        if (what == 0) {
            return asked.cost;
        }
        return what == 1 ? asked.refusedBy : asked.refusedAt;
    }

    public int compare(int a, int b) {
        Giver first = giverAt(a);
        Giver second = giverAt(b);
        if (first == null || second == null) {
            return BAD;
        }
        return first.leastUnlike(second);
    }

    public int blame(int client, int a, int b) {
        Client judge = clientAt(client);
        Giver first = giverAt(a);
        Giver second = giverAt(b);
        if (judge == null || first == null || second == null) {
            return BAD;
        }
        int height = first.leastUnlike(second);
        if (height == NONE) {
            return NONE;
        }
        Head trusted = judge.lastBelow(height);
        if (trusted == null) {
            return NONE;
        }
        int blamed = refusal(trusted, first.headAt(height)) == FITS ? 1 : 0;
        return refusal(trusted, second.headAt(height)) == FITS ? blamed + 2 : blamed;
    }

    // ---- a tree, a proof

    public long leaf(int k, long v) {
        return theTree.change(k, v);
    }

    public long tree(int k) {
        return theTree.nodeAt(k);
    }

    public int prove(int a, int b) {
        if (!isLeaf(a) || !isLeaf(b) || a == b) {
            return BAD;
        }
        theProof.take(theTree, a, b);
        return theProof.count;
    }

    public long proof(int k) {
        return theProof.numberAt(k);
    }

    public int alter(int k, long v) {
        return theProof.replace(k, v) ? 1 : BAD;
    }

    public int fraud(int before, int head, long amount) {
        Head earlier = heads.at(before);
        Head later = heads.at(head);
        if (earlier == null || later == null || amount <= 0) {
            return BAD;
        }
        if (theProof.topBefore() != earlier.root) {
            return NONE;
        }
        return theProof.topBehind(amount) != later.root ? 1 : 0;
    }

    // ---- samples

    public long chance(int n, int m, int s, int side) {
        if (!arePieces(n, m) || s < 0 || s > n || side < 0 || side > 1) {
            return BAD;
        }
        long above = choose(n - m, s);
        long below = choose(n, s);
        return (side == 0 ? above : below) / commonDivisor(above, below);
    }

    public int samples(int n, int m, int of) {
        if (!arePieces(n, m) || of < 1 || of > GREATEST_OF) {
            return BAD;
        }
        for (int s = 0; s <= n; s++) {
            // Dividing what is below, and not multiplying what is above, keeps within a long.
            if (choose(n - m, s) <= choose(n, s) / of) {
                return s;
            }
        }
        return NONE;
    }

    public int told(int what) {
        if (what == 0) {
            return setCount;
        }
        if (what == 1) {
            return heads.size;
        }
        return what >= 2 && what < 2 + TERMS ? terms[what - 2] : BAD;
    }

    // ---- what the calls share

    private WeightSet setAt(int k) {
        return k >= 0 && k < setCount && k < sets.length ? sets[k] : null;
    }

    private Client clientAt(int k) {
        return k >= 0 && k < clients.length ? clients[k] : null;
    }

    private Giver giverAt(int k) {
        return k >= 0 && k < givers.length ? givers[k] : null;
    }

    private boolean doesOverlap(Head asked, WeightSet with) {
        return terms[BELOW] * with.weightOf(asked.signers) > terms[ABOVE] * with.total;
    }

    /** What a head is refused by behind the trusted one, or FITS; no head at all is NOT_GIVEN. */
    private int refusal(Head trusted, Head tried) {
        if (tried == null) {
            return NOT_GIVEN;
        }
        int rise = tried.height - trusted.height;
        if (rise < 1) {
            return NOT_HIGHER;
        }
        return rise == 1 ? stepRefusal(trusted, tried) : skipRefusal(trusted, tried);
    }

    private int stepRefusal(Head trusted, Head tried) {
        if (tried.parent != trusted.fingerprint) {
            return OTHER_PARENT;
        }
        if (tried.own.number != trusted.following.number) {
            return OTHER_SET;
        }
        return isCertified(tried) ? FITS : NOT_CERTIFIED;
    }

    private int skipRefusal(Head trusted, Head tried) {
        if (tried.height - trusted.height > terms[SPAN]) {
            return TOO_FAR;
        }
        if (!isCertified(tried)) {
            return NOT_CERTIFIED;
        }
        return doesOverlap(tried, trusted.following) ? FITS : NO_OVERLAP;
    }

    private int climb(Client seeker, Giver source, int height) {
        pile[0] = height;
        int size = 1;
        Head trusted = seeker.trusted();
        for (int tries = 0; trusted != null && size > 0 && tries < MOST_TRIES; tries++) {
            int wanted = pile[size - 1];
            Head tried = source.headAt(wanted);
            int why = refusal(trusted, tried);
            seeker.cost++;
            if (why == FITS) {
                seeker.keep(tried, terms[ROWS]);
                trusted = tried;
                size--;
            } else if ((why == TOO_FAR || why == NO_OVERLAP) && size < PILE_ROOM) {
                pile[size] = (trusted.height + wanted) / 2;
                size++;
            } else {
                return seeker.refuse(why, wanted);
            }
        }
        return 1;
    }

    private static boolean isHeight(int height) {
        return height >= 0 && height <= HIGHEST;
    }

    private static boolean isLeaf(int k) {
        return k >= 0 && k < LEAVES;
    }

    private static boolean arePieces(int n, int missing) {
        return n >= 1 && n <= MOST_PIECES && missing >= 0 && missing <= n;
    }

    private static boolean isCertified(Head asked) {
        return 3 * asked.own.weightOf(asked.signers) > 2 * asked.own.total;
    }

    private static int weightIn(long packed, int place) {
        return (int) (packed >>> (WEIGHT_BITS * place)) & WEIGHT_MASK;
    }

    private static boolean holdsWeights(long packed) {
        for (int i = 0; i < WEIGHTS_IN_A_LONG; i++) {
            if (weightIn(packed, i) > GREATEST_WEIGHT) {
                return false;
            }
        }
        return packed >>> (WEIGHT_BITS * WEIGHTS_IN_A_LONG) == 0;
    }

    private static long mix(long x) {
        x = (x ^ x >>> 30) * 0xBF58476D1CE4E5B9L;
        x = (x ^ x >>> 27) * 0x94D049BB133111EBL;
        return x ^ x >>> 31;
    }

    private static long pair(long a, long b) {
        return mix(mix(a) + 3 * mix(b) + 0x9E3779B97F4A7C15L);
    }

    /** How many choices there are. Each product on the way is 30 times C(60, 30) at most, which a long holds. */
    private static long choose(int from, int some) {
        if (some > from) {
            return 0;
        }
        long ways = 1;
        for (int i = 0; i < some; i++) {
            ways = ways * (from - i) / (i + 1);
        }
        return ways;
    }

    private static long commonDivisor(long a, long b) {
        for (int i = 0; i < MOST_DIVISIONS && b != 0; i++) {
            long rest = a % b;
            a = b;
            b = rest;
        }
        return Math.max(1, a);
    }

    /** The weights of all nodes, as packed as set() is given them. */
    private static final class WeightSet {
        private final int number;
        private final long low;
        private final long high;
        private final int total;

        private WeightSet(int number, long low, long high) {
            this.number = number;
            this.low = low;
            this.high = high;
            int sum = 0;
            for (int i = 0; i < WEIGHTS_IN_A_LONG; i++) {
                sum += weightIn(low, i) + weightIn(high, i);
            }
            this.total = sum;
        }

        private int weightOf(int signers) {
            int sum = 0;
            for (int i = 0; i < WEIGHTS_IN_A_LONG; i++) {
                if ((signers & 1 << i) != 0) {
                    sum += weightIn(low, i);
                }
                if ((signers & 1 << (i + WEIGHTS_IN_A_LONG)) != 0) {
                    sum += weightIn(high, i);
                }
            }
            return sum;
        }
    }

    private static final class Head {
        private final int number;
        private final int height;
        private final long parent;
        private final WeightSet own;
        private final WeightSet following;
        private final long root;
        private final long fingerprint;
        private int signers = 0;

        private Head(int number, int height, long parent, WeightSet own, WeightSet following, long root) {
            this.number = number;
            this.height = height;
            this.parent = parent;
            this.own = own;
            this.following = following;
            this.root = root;
            this.fingerprint = pair(pair(pair(height, parent), pair(own.number, following.number)), root);
        }
    }

    /** Heads in a row with a fixed room. */
    private static final class HeadRow {
        private final Head[] places;
        private int size = 0;

        private HeadRow(int room) {
            places = new Head[Math.max(0, room)];
        }

        private Head at(int k) {
            return k >= 0 && k < size && k < places.length ? places[k] : null;
        }

        private boolean isFull() {
            return size >= places.length;
        }

        private void add(Head more) {
            if (!isFull()) {
                places[size] = more;
                size++;
            }
        }

        private void put(int k, Head other) {
            if (k >= 0 && k < size && k < places.length) {
                places[k] = other;
            }
        }

        private void cutTo(int left) {
            size = Math.min(size, Math.max(0, left));
        }
    }

    private static final class Client {
        // One place above the most rows: a head is added first, and then others go.
        private final HeadRow rows = new HeadRow(MOST_ROWS + 1);
        private int cost = 0;
        private int refusedBy = NONE;
        private int refusedAt = NONE;

        private void begin(Head first) {
            rows.cutTo(0);
            rows.add(first);
            cost = 0;
            refusedBy = NONE;
            refusedAt = NONE;
        }

        private Head trusted() {
            return rows.at(rows.size - 1);
        }

        private void keep(Head more, int most) {
            rows.add(more);
            int gone = rows.size - most;
            if (gone <= 0) {
                return;
            }
            for (int i = 1; i < most; i++) {
                rows.put(i, rows.at(i + gone));
            }
            rows.cutTo(most);
        }

        private int refuse(int why, int height) {
            refusedBy = why;
            refusedAt = height;
            return REFUSED - why;
        }

        private Head lastBelow(int height) {
            for (int i = rows.size - 1; i >= 0; i--) {
                Head kept = rows.at(i);
                if (kept != null && kept.height < height) {
                    return kept;
                }
            }
            return null;
        }
    }

    private static final class Giver {
        private final HeadRow rows = new HeadRow(MOST_HEADS);

        private int placeOf(int height) {
            for (int i = 0; i < rows.size; i++) {
                Head had = rows.at(i);
                if (had != null && had.height == height) {
                    return i;
                }
            }
            return NONE;
        }

        private Head headAt(int height) {
            return rows.at(placeOf(height));
        }

        private Head replace(Head given) {
            int place = placeOf(given.height);
            Head before = rows.at(place);
            if (before == null) {
                rows.add(given);
            } else {
                rows.put(place, given);
            }
            return before;
        }

        private int leastUnlike(Giver other) {
            int least = NONE;
            for (int i = 0; i < rows.size; i++) {
                Head mine = rows.at(i);
                if (mine != null && isUnlike(mine, other) && (least == NONE || mine.height < least)) {
                    least = mine.height;
                }
            }
            return least;
        }

        private static boolean isUnlike(Head mine, Giver other) {
            Head theirs = other.headAt(mine.height);
            return theirs != null && theirs.fingerprint != mine.fingerprint;
        }
    }

    private static final class Tree {
        private final long[] leaves = new long[LEAVES];
        private final long[] nodes = new long[TREE_ROOM];

        private Tree() {
            reckon();
        }

        private void reckon() {
            for (int k = TREE_ROOM - 1; k >= TOP; k--) {
                nodes[k] = k >= LEAVES ? mix(leaves[k - LEAVES]) : pair(nodes[2 * k], nodes[2 * k + 1]);
            }
        }

        private long leafAt(int k) {
            return isLeaf(k) ? leaves[k] : 0;
        }

        private long nodeAt(int k) {
            return k >= TOP && k < TREE_ROOM ? nodes[k] : 0;
        }

        private long change(int k, long v) {
            if (!isLeaf(k)) {
                return 0;
            }
            long before = leaves[k];
            leaves[k] = v;
            reckon();
            return before;
        }
    }

    /** Two leaves and the nodes beside their ways to the top, as they were when it was taken or altered. */
    private static final class Proof {
        private int a = 0;
        private int b = 0;
        private long valueA = 0;
        private long valueB = 0;
        private final long[] nodes = new long[MOST_PROOF_NODES];
        private int count = 0;
        private final long[] reckoned = new long[TREE_ROOM];

        private void take(Tree from, int leafA, int leafB) {
            a = leafA;
            b = leafB;
            valueA = from.leafAt(leafA);
            valueB = from.leafAt(leafB);
            count = 0;
            for (int k = TREE_ROOM - 1; k > TOP; k--) {
                if (isBeside(k) && count < MOST_PROOF_NODES) {
                    nodes[count] = from.nodeAt(k);
                    count++;
                }
            }
        }

        /** Whether a node is one of the two leaves' or above one of them, so that it comes of others. */
        private boolean isOnWay(int k) {
            for (int up = 0; up < TREE_LEVELS; up++) {
                if ((LEAVES + a) >>> up == k || (LEAVES + b) >>> up == k) {
                    return true;
                }
            }
            return false;
        }

        private boolean isBeside(int k) {
            return !isOnWay(k) && isOnWay(k ^ 1);
        }

        private boolean hasNode(int place) {
            return place >= 0 && place < count && place < MOST_PROOF_NODES;
        }

        private long numberAt(int k) {
            switch (k) {
                case 0:
                    return a;
                case 1:
                    return b;
                case 2:
                    return valueA;
                case 3:
                    return valueB;
                default:
                    return hasNode(k - FIRST_NODE) ? nodes[k - FIRST_NODE] : 0;
            }
        }

        private boolean replace(int k, long v) {
            if (k == 2) {
                valueA = v;
            } else if (k == 3) {
                valueB = v;
            } else if (hasNode(k - FIRST_NODE)) {
                nodes[k - FIRST_NODE] = v;
            } else {
                return false;
            }
            return true;
        }

        private long topBefore() {
            return topWith(valueA, valueB);
        }

        private long topBehind(long amount) {
            // A leaf below 0 is less than any amount, so that this one test refuses it too.
            return valueA < amount ? topBefore() : topWith(valueA - amount, valueB + amount);
        }

        private long topWith(long ofA, long ofB) {
            int used = 0;
            for (int k = TREE_ROOM - 1; k >= TOP; k--) {
                if (isOnWay(k)) {
                    reckoned[k] = k >= LEAVES ? mix(k == LEAVES + a ? ofA : ofB) : pair(reckoned[2 * k], reckoned[2 * k + 1]);
                } else if (isBeside(k) && hasNode(used)) {
                    reckoned[k] = nodes[used];
                    used++;
                }
            }
            return reckoned[TOP];
        }
    }
}
