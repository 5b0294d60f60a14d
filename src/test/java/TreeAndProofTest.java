/** Promises 1 and 17 to 22: the tree, its proof, and frauds shown by it. */
public final class TreeAndProofTest extends Worlds {
    public static void main(String[] args) {
        Due due = new Due("TreeAndProofTest");
        emptyTree(due);
        leavesChange(due);
        proofsOfEachPair(due);
        proofsStay(due);
        numbersAreAltered(due);
        wrongProofs(due);
        stepsAreJudged(due);
        stepsThatMoveNothing(due);
        stepsThatWrap(due);
        alteredProofsShowNothing(due);
        fraudsAreRefused(due);
        due.end();
    }

    private static long pair(long a, long b) {
        return PlainModel.pair(a, b);
    }

    /** Node k of a tree, reckoned apart. */
    private static long node(long[] leaves, int k) {
        return k >= 8 ? PlainModel.mix(leaves[k - 8]) : pair(node(leaves, 2 * k), node(leaves, 2 * k + 1));
    }

    private static long[] grown(LightChecks x) {
        long[] leaves = {100, -7, Long.MAX_VALUE, Long.MIN_VALUE, 0, 5, 1L << 40, 60};
        for (int k = 0; k < 8; k++) {
            x.leaf(k, leaves[k]);
        }
        return leaves;
    }

    private static void emptyTree(Due due) {
        LightChecks x = new LightChecks();
        long[] leaves = new long[8];
        for (int k = 1; k < 16; k++) {
            due.is("empty tree " + k, x.tree(k), node(leaves, k));
        }
        long[] proof = {0, 1, 0, 0, node(leaves, 5), node(leaves, 3), 0, 0};
        for (int k = 0; k < 8; k++) {
            due.is("first proof " + k, x.proof(k), proof[k]);
        }
        due.is("the first proof has two nodes", x.alter(6, 1), BAD);
    }

    private static void leavesChange(Due due) {
        LightChecks x = new LightChecks();
        long[] leaves = new long[8];
        for (int k = 0; k < 8; k++) {
            due.is("leaf at first " + k, x.leaf(k, 11 * k - 30), 0);
            leaves[k] = 11 * k - 30;
            for (int n = 1; n < 16; n++) {
                due.is("tree " + n + " behind leaf " + k, x.tree(n), node(leaves, n));
            }
        }
        for (int k = 0; k < 8; k++) {
            due.is("leaf again " + k, x.leaf(k, Long.MIN_VALUE), 11 * k - 30);
        }
        int[] none = {-1, 8, 15, Integer.MIN_VALUE, Integer.MAX_VALUE};
        long top = x.tree(1);
        for (int wrong : none) {
            due.is("no such leaf " + wrong, x.leaf(wrong, 9), 0);
        }
        due.is("those change nothing", x.tree(1), top);
        int[] noNode = {-1, 0, 16, Integer.MIN_VALUE, Integer.MAX_VALUE};
        for (int wrong : noNode) {
            due.is("no such node " + wrong, x.tree(wrong), 0);
        }
    }

    private static void proofsOfEachPair(Due due) {
        LightChecks x = new LightChecks();
        long[] leaves = grown(x);
        int[][] known = {{0, 1, 5, 3}, {0, 2, 11, 9, 3}, {1, 0, 5, 3}, {3, 2, 4, 3}, {0, 7, 14, 9, 6, 5}, {7, 0, 14, 9, 6, 5},
            {4, 6, 15, 13, 2}, {6, 7, 6, 2}, {2, 5, 12, 11, 7, 4}, {3, 4, 13, 10, 7, 4}};
        for (int[] row : known) {
            int a = row[0], b = row[1];
            String name = "proof of " + a + ", " + b + ": ";
            due.is(name + "nodes", x.prove(a, b), row.length - 2);
            due.is(name + "a", x.proof(0), a);
            due.is(name + "b", x.proof(1), b);
            due.is(name + "leaf a", x.proof(2), leaves[a]);
            due.is(name + "leaf b", x.proof(3), leaves[b]);
            for (int i = 0; i < 4; i++) {
                due.is(name + "node " + i, x.proof(4 + i), i + 2 < row.length ? node(leaves, row[i + 2]) : 0);
            }
        }
        int[] none = {-1, -4, 8, 9, Integer.MIN_VALUE, Integer.MIN_VALUE + 3, Integer.MAX_VALUE};
        for (int wrong : none) {
            due.is("proof " + wrong, x.proof(wrong), 0);
        }
    }

    private static void proofsStay(Due due) {
        LightChecks x = new LightChecks();
        long[] leaves = grown(x);
        due.is("the first proof is of the empty tree", x.proof(2), 0);
        x.prove(0, 7);
        for (int k = 0; k < 8; k++) {
            x.leaf(k, 1);
        }
        due.is("leaf a as it was", x.proof(2), 100);
        due.is("leaf b as it was", x.proof(3), 60);
        due.is("node 14 as it was", x.proof(4), node(leaves, 14));
        due.is("node 5 as it was", x.proof(7), node(leaves, 5));
        x.prove(0, 1);
        due.is("no third node left of the one before", x.proof(6), 0);
    }

    private static void numbersAreAltered(Due due) {
        LightChecks x = new LightChecks();
        grown(x);
        long top = x.tree(1);
        x.prove(0, 7);
        for (int k = 2; k < 8; k++) {
            due.is("alter " + k, x.alter(k, -50 - k), 1);
        }
        for (int k = 2; k < 8; k++) {
            due.is("altered " + k, x.proof(k), -50 - k);
        }
        due.is("the tree is as it was", x.tree(1), top);
        due.is("leaf 0 is as it was", x.leaf(0, 100), 100);
        int[] none = {-1, 0, 1, 8, Integer.MIN_VALUE, Integer.MIN_VALUE + 3, Integer.MAX_VALUE};
        for (int wrong : none) {
            due.is("alter " + wrong, x.alter(wrong, 3), BAD);
        }
        due.is("leaf a's number stays", x.proof(0), 0);
        due.is("leaf b's number stays", x.proof(1), 7);
        x.prove(0, 2);
        due.is("alter the third", x.alter(6, 1), 1);
        due.is("alter the fourth of three", x.alter(7, 1), BAD);
        due.is("there is none yet", x.proof(7), 0);
        x.prove(5, 4);
        due.is("alter the second", x.alter(5, 1), 1);
        due.is("alter the third of two", x.alter(6, 1), BAD);
    }

    private static void wrongProofs(Due due) {
        LightChecks x = new LightChecks();
        grown(x);
        x.prove(3, 6);
        int[] none = {-1, 8, Integer.MIN_VALUE, Integer.MAX_VALUE};
        for (int wrong : none) {
            due.is("prove " + wrong, x.prove(wrong, 0), BAD);
            due.is("prove with " + wrong, x.prove(0, wrong), BAD);
        }
        for (int k = 0; k < 8; k++) {
            due.is("prove with itself " + k, x.prove(k, k), BAD);
        }
        due.is("the proof stays", x.proof(0), 3);
        due.is("the proof stays, b", x.proof(1), 6);
    }

    private static void stepsAreJudged(Due due) {
        for (int a = 0; a < 8; a++) {
            for (int b = 0; b < 8; b++) {
                if (a != b) {
                    judged(due, a, b);
                }
            }
        }
    }

    private static void judged(Due due, int a, int b) {
        LightChecks x = new LightChecks();
        x.set(1, 0);
        for (int k = 0; k < 8; k++) {
            x.leaf(k, 100 + k);
        }
        int before = rooted(x, x.tree(1));
        x.prove(a, b);
        x.leaf(a, 100 + a - 30);
        x.leaf(b, 100 + b + 30);
        int right = rooted(x, x.tree(1)), wrong = rooted(x, x.tree(1) + 1);
        String name = "step from " + a + " to " + b + ": ";
        due.is(name + "as it should be", x.fraud(before, right, 30), 0);
        due.is(name + "another root", x.fraud(before, wrong, 30), 1);
        due.is(name + "another amount", x.fraud(before, right, 29), 1);
        due.is(name + "nothing moved", x.fraud(before, before, 30), 1);
        due.is(name + "not the one before", x.fraud(right, right, 30), NONE);
        x.prove(b, a);
        due.is(name + "the proof is of the tree by now", x.fraud(before, right, 30), NONE);
        due.is(name + "and back", x.fraud(right, before, 30), 0);
        due.is(name + "proof is not changed", x.proof(2), 130 + b);
    }

    private static void stepsThatMoveNothing(Due due) {
        LightChecks x = new LightChecks();
        x.set(1, 0);
        x.leaf(4, 10);
        x.leaf(5, -1);
        x.prove(4, 1);
        int before = rooted(x, x.tree(1));
        due.is("less there than the amount", x.fraud(before, before, 11), 0);
        due.is("the greatest amount", x.fraud(before, before, Long.MAX_VALUE), 0);
        due.is("just the amount moves", x.fraud(before, before, 10), 1);
        x.prove(5, 1);
        due.is("below 0", x.fraud(before, before, 1), 0);
        x.alter(2, Long.MIN_VALUE);
        due.is("altered, another top", x.fraud(before, before, 1), NONE);
        x.leaf(5, Long.MIN_VALUE);
        x.prove(5, 1);
        int lowest = rooted(x, x.tree(1));
        due.is("far below 0", x.fraud(lowest, lowest, 1), 0);
        due.is("far below 0, the greatest amount", x.fraud(lowest, lowest, Long.MAX_VALUE), 0);
    }

    private static void stepsThatWrap(Due due) {
        LightChecks x = new LightChecks();
        x.set(1, 0);
        x.leaf(0, 5);
        x.leaf(6, Long.MAX_VALUE);
        x.prove(0, 6);
        int before = rooted(x, x.tree(1));
        x.leaf(0, 3);
        x.leaf(6, Long.MIN_VALUE + 1);
        due.is("leaf b wraps", x.fraud(before, rooted(x, x.tree(1)), 2), 0);
    }

    private static void alteredProofsShowNothing(Due due) {
        LightChecks x = new LightChecks();
        x.set(1, 0);
        grown(x);
        int before = rooted(x, x.tree(1)), wrong = rooted(x, 1);
        for (int k = 2; k < 8; k++) {
            x.prove(0, 7);
            due.is("as it was", x.fraud(before, wrong, 1), 1);
            long was = x.proof(k);
            x.alter(k, was + 1);
            due.is("altered " + k, x.fraud(before, wrong, 1), NONE);
            x.alter(k, was);
            due.is("altered back " + k, x.fraud(before, wrong, 1), 1);
        }
    }

    private static void fraudsAreRefused(Due due) {
        LightChecks x = new LightChecks();
        x.set(1, 0);
        int before = rooted(x, x.tree(1));
        int[] none = {-1, 1, Integer.MIN_VALUE, Integer.MAX_VALUE};
        for (int wrong : none) {
            due.is("before " + wrong, x.fraud(wrong, before, 1), BAD);
            due.is("head " + wrong, x.fraud(before, wrong, 1), BAD);
        }
        due.is("amount 0", x.fraud(before, before, 0), BAD);
        due.is("amount -1", x.fraud(before, before, -1), BAD);
        due.is("least amount", x.fraud(before, before, Long.MIN_VALUE), BAD);
        due.is("BAD comes ahead of NONE", x.fraud(rooted(x, 3), before, 0), BAD);
        due.is("amount 1", x.fraud(before, before, 1), 0);
    }
}
