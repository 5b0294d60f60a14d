import java.util.Random;

/** Runs of drawn calls, from fixed seeds, on the class and on the plain model: every answer must be the same. */
public final class ModelRunsTest extends Worlds {
    private static final int RUNS = 2500;
    private static final int CHAIN_RUNS = 2500;
    // With the 52 calls that end a run, and the 12 more that one round may make, this stays within 512.
    private static final int CALLS = 448;
    private static final int[] WILD = {Integer.MIN_VALUE, Integer.MIN_VALUE + 3, -1000, -3, -2, -1, 0, 1, 7, 8, 9, 10, 11, 15,
        16, 17, 59, 60, 61, 100, 1000, 1001, 99999, 100000, 100001, 1000000, 1000001, Integer.MAX_VALUE - 3, Integer.MAX_VALUE};

    private final Random random;
    private final Due due;
    private final String run;
    private final LightChecks x = new LightChecks();
    private final PlainModel y = new PlainModel();
    private final int spread;
    private final int wildness;
    private final int[] heights = new int[60];
    private int calls = 0;

    private ModelRunsTest(Due due, int seed) {
        this.due = due;
        this.random = new Random(seed);
        this.run = "run " + seed + " ";
        this.spread = new int[] {8, 40, 300, 100001}[seed % 4];
        this.wildness = seed % 3 == 0 ? 5 : 60;
    }

    public static void main(String[] args) {
        Due due = new Due("ModelRunsTest");
        for (int seed = 0; seed < RUNS; seed++) {
            new ModelRunsTest(due, seed).go();
        }
        for (int seed = RUNS; seed < RUNS + CHAIN_RUNS; seed++) {
            new ModelRunsTest(due, seed).goAlongAChain();
        }
        due.end();
    }

    private void go() {
        while (calls < CALLS) {
            int kind = random.nextInt(100);
            if (kind < 50) {
                setsAndHeads();
            } else if (kind < 80) {
                clientsAndGivers(random.nextInt(14));
            } else if (kind < 95) {
                treeAndProof(random.nextInt(7));
            } else {
                samples(random.nextInt(3));
            }
        }
        allStored();
    }

    private void allStored() {
        for (int client = 0; client < 4; client++) {
            for (int k = -1; k < 12; k++) {
                same("stored " + client + " " + k, x.stored(client, k), y.stored(client, k));
            }
        }
    }

    /** A whole chain whose signers change on the way, so that seeks go far, skip, halve and let rows go. */
    private void goAlongAChain() {
        int sets = 2 + random.nextInt(4), gap = 1 + random.nextInt(3);
        for (int i = 0; i < sets; i++) {
            long a = weights(i == 0 ? 9 : 0, i < 2 ? 9 : 1, i < 3 ? 9 : 1, i > 0 ? 9 : 1, i > 1 ? 9 : 0);
            long b = weights(i > 2 ? 9 : 0, i > 3 ? 9 : 0);
            same("set", x.set(a, b), y.set(a, b));
        }
        int length = 30 + random.nextInt(12), set = 0;
        for (int i = 0; i < length; i++) {
            int next = Math.min(sets - 1, set + (random.nextInt(length / sets) == 0 ? 1 : 0));
            long parent = i == 0 || random.nextInt(40) == 0 ? i : y.digest(i - 1);
            same("head", x.head(gap * i, parent, set, next, i), y.head(gap * i, parent, set, next, i));
            heights[i] = gap * i;
            for (int node = set; node < set + 4; node++) {
                if (random.nextInt(12) > 0) {
                    same("sign " + i + " " + node, x.sign(i, node), y.sign(i, node));
                }
            }
            same("give 0 " + i, x.give(0, i), y.give(0, i));
            if (random.nextInt(4) > 0) {
                same("give 1 " + i, x.give(1, i), y.give(1, i));
            }
            set = next;
        }
        for (int client = 0; client < 3; client++) {
            same("start " + client, x.start(client, client), y.start(client, client));
        }
        while (calls < CALLS) {
            alongAChain(length);
        }
        allStored();
    }

    private void alongAChain(int length) {
        int client = random.nextInt(3), giver = random.nextInt(2), at = random.nextInt(length);
        switch (random.nextInt(8)) {
            case 0:
                same("start " + client + " " + at / 4, x.start(client, at / 4), y.start(client, at / 4));
                break;
            case 1:
                int what = random.nextInt(4), v = random.nextInt(11);
                same("term " + what + " " + v, x.term(what, v), y.term(what, v));
                break;
            case 2:
                int made = y.head(heights[at], 7, 0, 0, 7);
                same("head " + heights[at], x.head(heights[at], 7, 0, 0, 7), made);
                if (made >= 0) {
                    heights[made] = heights[at];
                    signMost(made);
                    same("give 2 " + made, x.give(2, made), y.give(2, made));
                }
                break;
            case 3:
                same("compare 2 " + giver, x.compare(2, giver), y.compare(2, giver));
                same("blame " + client, x.blame(client, 2, giver), y.blame(client, 2, giver));
                break;
            default:
                same("seek " + client + " " + giver + " " + heights[at],
                    x.seek(client, giver, heights[at]), y.seek(client, giver, heights[at]));
                for (int k = 0; k < 3; k++) {
                    same("client " + client + " " + k, x.client(client, k), y.client(client, k));
                }
                same("stored " + client, x.stored(client, -1), y.stored(client, -1));
        }
    }

    private void same(String call, long got, long want) {
        calls++;
        due.is(run + call, got, want);
    }

    /** A number below a bound, mostly; now and then any other. */
    private int some(int bound) {
        return random.nextInt(wildness) == 0 ? WILD[random.nextInt(WILD.length)] : random.nextInt(Math.max(1, bound));
    }

    private int someHead() {
        int heads = y.told(1);
        return random.nextBoolean() ? some(heads) : Math.max(0, heads - 1 - random.nextInt(4));
    }

    private long someLong() {
        switch (random.nextInt(4)) {
            case 0:
                return random.nextLong();
            case 1:
                return random.nextBoolean() ? Long.MIN_VALUE : Long.MAX_VALUE;
            default:
                return random.nextInt(100) - 5;
        }
    }

    private long someWeights() {
        long packed = 0;
        int most = random.nextInt(wildness) == 0 ? 128 : 101;
        for (int i = 0; i < 5; i++) {
            packed |= (long) (random.nextInt(3) == 0 ? 0 : random.nextInt(most)) << 7 * i;
        }
        return random.nextInt(wildness) == 0 ? packed | 1L << random.nextInt(64) : packed;
    }

    private void setsAndHeads() {
        if (calls < 4) {
            newSet();
            return;
        }
        int kind = random.nextInt(40);
        if (kind == 0) {
            newSet();
        } else if (kind < 8) {
            newHead();
        } else if (kind < 30) {
            int head = someHead(), node = some(10);
            same("sign " + head + " " + node, x.sign(head, node), y.sign(head, node));
        } else if (kind < 32) {
            int what = some(4), v = some(what == 2 ? random.nextInt(1001) + 1 : 12);
            same("term " + what + " " + v, x.term(what, v), y.term(what, v));
        } else if (kind < 34) {
            int head = someHead();
            same("digest " + head, x.digest(head), y.digest(head));
        } else if (kind < 36) {
            int head = someHead();
            same("certified " + head, x.certified(head), y.certified(head));
        } else if (kind < 39) {
            int head = someHead(), set = some(y.told(0));
            same("overlaps " + head + " " + set, x.overlaps(head, set), y.overlaps(head, set));
        } else {
            int what = some(7);
            same("told " + what, x.told(what), y.told(what));
        }
    }

    private void newSet() {
        long a = someWeights(), b = random.nextBoolean() ? 0 : someWeights();
        same("set " + a + " " + b, x.set(a, b), y.set(a, b));
    }

    private void newHead() {
        int height = some(spread);
        long parent = someLong(), root = random.nextBoolean() ? y.tree(1) : random.nextBoolean() ? y.rootBehind(3) : someLong();
        int set = some(Math.min(2, y.told(0))), next = some(Math.min(2, y.told(0)));
        int client = random.nextInt(4), kept = y.stored(client, -1);
        if (kept > 0 && random.nextInt(3) > 0) {
            int trusted = y.stored(client, kept - 1);
            height = heightOf(trusted) + 1 + (random.nextBoolean() ? 0 : random.nextInt(60));
            parent = y.digest(trusted);
        }
        int made = y.head(height, parent, set, next, root);
        same("head " + height, x.head(height, parent, set, next, root), made);
        if (made >= 0) {
            heights[made] = height;
            if (random.nextInt(3) > 0) {
                signMost(made);
            }
        }
    }

    private int heightOf(int head) {
        return heights[head];
    }

    private void signMost(int head) {
        for (int node = 0; node < 10; node++) {
            if (random.nextInt(6) > 0) {
                same("sign " + head + " " + node, x.sign(head, node), y.sign(head, node));
            }
        }
    }

    private void clientsAndGivers(int kind) {
        int client = some(4), head = someHead(), giver = some(2), other = some(3);
        switch (kind) {
            case 0:
                same("start " + client + " " + head, x.start(client, head), y.start(client, head));
                break;
            case 1: case 2: case 3:
                same("follow " + client + " " + head, x.follow(client, head), y.follow(client, head));
                break;
            case 4: case 5: case 6:
                same("give " + giver + " " + head, x.give(giver, head), y.give(giver, head));
                break;
            case 7: case 8: case 9:
                int height = random.nextInt(4) > 0 && y.told(1) > 0 ? heightOf(random.nextInt(y.told(1))) : some(spread);
                same("seek " + client + " " + giver + " " + height, x.seek(client, giver, height), y.seek(client, giver, height));
                break;
            case 10:
                int k = some(12) - 2;
                same("stored " + client + " " + k, x.stored(client, k), y.stored(client, k));
                break;
            case 11:
                int what = some(4);
                same("client " + client + " " + what, x.client(client, what), y.client(client, what));
                break;
            case 12:
                same("compare " + giver + " " + other, x.compare(giver, other), y.compare(giver, other));
                break;
            default:
                same("blame " + client + " " + giver + " " + other, x.blame(client, giver, other), y.blame(client, giver, other));
        }
    }

    private void treeAndProof(int kind) {
        int k = some(9), node = some(17);
        long v = someLong();
        switch (kind) {
            case 0:
                same("leaf " + k + " " + v, x.leaf(k, v), y.leaf(k, v));
                break;
            case 1:
                same("tree " + node, x.tree(node), y.tree(node));
                break;
            case 2: case 3:
                int b = some(8);
                same("prove " + k + " " + b, x.prove(k, b), y.prove(k, b));
                break;
            case 4:
                same("proof " + k, x.proof(k), y.proof(k));
                break;
            case 5:
                same("alter " + k + " " + v, x.alter(k, v), y.alter(k, v));
                break;
            default:
                int before = someHead(), head = someHead();
                long amount = random.nextBoolean() ? 3 : someLong();
                same("fraud " + before + " " + head + " " + amount, x.fraud(before, head, amount), y.fraud(before, head, amount));
        }
    }

    private void samples(int kind) {
        int n = some(61), m = some(Math.min(n, 60) + 1), s = some(Math.min(n, 60) + 1), side = some(2), of = some(1000000) + 1;
        if (kind == 0) {
            same("samples " + n + " " + m + " " + of, x.samples(n, m, of), y.samples(n, m, of));
        } else {
            same("chance " + n + " " + m + " " + s + " " + side, x.chance(n, m, s, side), y.chance(n, m, s, side));
        }
    }
}
