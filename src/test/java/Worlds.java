/** What several tests build and ask alike; a test extends it, to use these names as its own. */
abstract class Worlds {
    static final int BAD = -1, NONE = -2, FULL = -3;
    static final int LEAST = Integer.MIN_VALUE, MOST = Integer.MAX_VALUE;

    /** Five weights, that of the first node in the lowest bits. */
    static long weights(int... each) {
        long packed = 0;
        for (int i = 0; i < each.length; i++) {
            packed |= (long) each[i] << 7 * i;
        }
        return packed;
    }

    /** Sets 0 (nodes 0, 1, 2 weigh 10), 1 (nodes 3, 4, 5 weigh 10) and 2 (nodes 2, 3, 4 weigh 10). */
    static LightChecks world() {
        LightChecks x = new LightChecks();
        x.set(weights(10, 10, 10), 0);
        x.set(weights(0, 0, 0, 10, 10), 10);
        x.set(weights(0, 0, 10, 10, 10), 0);
        return x;
    }

    static int made(LightChecks x, int height, long parent, int set, int next, int... nodes) {
        int head = x.head(height, parent, set, next, 0);
        for (int node : nodes) {
            x.sign(head, node);
        }
        return head;
    }

    /** A head that a client with such a one may skip to: set 0 is its set and its next, and signs it whole. */
    static int skip(LightChecks x, int height) {
        return made(x, height, 0, 0, 0, 0, 1, 2);
    }

    /** A head that a client with the head before may step to. */
    static int step(LightChecks x, int height, int before) {
        return made(x, height, x.digest(before), 0, 0, 0, 1, 2);
    }

    /** A head with a root; what else it has does not matter for a fraud. */
    static int rooted(LightChecks x, long root) {
        return x.head(5, 0, 0, 0, root);
    }

    static void keeps(Due due, String when, LightChecks x, int client, int... heads) {
        due.is(when + ", stored -1", x.stored(client, -1), heads.length);
        for (int k = 0; k < heads.length; k++) {
            due.is(when + ", stored " + k, x.stored(client, k), heads[k]);
        }
        due.is(when + ", stored " + heads.length, x.stored(client, heads.length), NONE);
    }

    static void tells(Due due, String when, LightChecks x, int client, int... what) {
        for (int i = 0; i < what.length; i++) {
            due.is(when + ", client " + i, x.client(client, i), what[i]);
        }
    }
}
