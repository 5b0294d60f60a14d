/** The edges of 'The public face' and of promise 1. */
final class NewObjectEdges extends Worlds {
    private static final String FIRST = "Promise 1";
    private static final long EMPTY_TOP = -2230949851122117354L;

    static void all(Due due) {
        constantsAreTheDocuments(due);
        promise1NoSetsNoHeads(due);
        promise1ClientsStoreNothing(due);
        promise1TheTreeIsEmpty(due);
        promise1TheProofIsOfLeaves0And1(due);
    }

    private static void constantsAreTheDocuments(Due due) {
        due.sentence("The public face", "public static final int BAD = -1, NONE = -2, FULL = -3;");
        due.is("BAD", LightChecks.BAD, -1);
        due.is("NONE", LightChecks.NONE, -2);
        due.is("FULL", LightChecks.FULL, -3);
    }

    private static void promise1NoSetsNoHeads(Due due) {
        due.sentence(FIRST, "No SETS, HEADS;");
        LightChecks x = new LightChecks();
        due.is("sets", x.told(0), 0);
        due.is("heads", x.told(1), 0);
        due.is("digest of head 0", x.digest(0), 0);
        due.is("certified, head 0", x.certified(0), BAD);
        due.is("sign, head 0", x.sign(0, 0), BAD);
        due.is("start with head 0", x.start(0, 0), BAD);
        due.is("a head of set 0", x.head(0, 0, 0, 0, 0), BAD);
        due.is("the first set is 0", x.set(0, 0), 0);
        due.is("the first head is 0", x.head(0, 0, 0, 0, 0), 0);
        due.is("another object has none", new LightChecks().told(0), 0);
    }

    private static void promise1ClientsStoreNothing(Due due) {
        due.sentence(FIRST, "CLIENTS store nothing;");
        LightChecks x = world();
        int head = skip(x, 5);
        for (int client = 0; client < 4; client++) {
            due.is("how many, client " + client, x.stored(client, -1), 0);
            due.is("the first of them, client " + client, x.stored(client, 0), NONE);
            due.is("not begun, client " + client, x.follow(client, head), NONE);
        }
    }

    private static void promise1TheTreeIsEmpty(Due due) {
        due.sentence(FIRST, "an empty THE TREE,");
        LightChecks x = new LightChecks();
        for (int k = 0; k < 8; k++) {
            due.is("node of leaf " + k, x.tree(8 + k), 0);
        }
        due.is("top", x.tree(1), EMPTY_TOP);
        for (int k = 0; k < 8; k++) {
            due.is("leaf " + k, x.leaf(k, 1), 0);
        }
    }

    private static void promise1TheProofIsOfLeaves0And1(Due due) {
        due.sentence(FIRST, "the PROOF of LEAVES 0 and 1 of it.");
        LightChecks x = new LightChecks();
        long[] proof = {0, 1, 0, 0, x.tree(5), x.tree(3), 0, 0};
        for (int k = 0; k < proof.length; k++) {
            due.is("proof " + k, x.proof(k), proof[k]);
        }
        due.is("its second node may be altered", x.alter(5, 9), 1);
        due.is("it has no third node", x.alter(6, 9), BAD);
        LightChecks y = new LightChecks();
        y.set(1, 0);
        y.leaf(0, 3);
        int empty = rooted(y, EMPTY_TOP);
        due.is("it is of the tree while that was empty", y.fraud(empty, empty, 1), 0);
    }
}
