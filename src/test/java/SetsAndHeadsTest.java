/** Promises 1 to 8 and 25: sets, heads, signing, terms, digests, certified and overlapping heads. */
public final class SetsAndHeadsTest extends Worlds {
    public static void main(String[] args) {
        Due due = new Due("SetsAndHeadsTest");
        newObject(due);
        setsAreRead(due);
        setsAreRefused(due);
        setsAreFull(due);
        headsAreMade(due);
        headsAreFull(due);
        nodesSign(due);
        termsChange(due);
        digestsAreReckoned(due);
        twoThirdsAreNotAbove(due);
        overlapsFollowTheTerms(due);
        numbersAreTold(due);
        due.end();
    }

    private static void newObject(Due due) {
        LightChecks x = new LightChecks();
        long[] told = {0, 0, 1, 3, 50, 4};
        for (int what = 0; what < told.length; what++) {
            due.is("told of a new object " + what, x.told(what), told[what]);
        }
        due.is("digest, no heads", x.digest(0), 0);
        due.is("certified, no heads", x.certified(0), BAD);
        due.is("head, no sets", x.head(0, 0, 0, 0, 0), BAD);
    }

    private static void setsAreRead(Due due) {
        for (int heavy = 0; heavy < 10; heavy++) {
            LightChecks x = new LightChecks();
            long one = weights(100) << 7 * (heavy % 5);
            due.is("set of one weight", x.set(heavy < 5 ? one : 0, heavy < 5 ? 0 : one), 0);
            for (int node = 0; node < 10; node++) {
                due.is("head", x.head(1, 0, 0, 0, 0), node);
                x.sign(node, node);
                due.is("certified by node " + node + ", weight at " + heavy, x.certified(node), node == heavy ? 1 : 0);
            }
        }
    }

    private static void setsAreRefused(Due due) {
        LightChecks x = new LightChecks();
        for (int i = 0; i < 5; i++) {
            due.is("101 in a " + i, x.set(101L << 7 * i, 0), BAD);
            due.is("101 in b " + i, x.set(0, 101L << 7 * i), BAD);
            due.is("127 in b " + i, x.set(0, 127L << 7 * i), BAD);
        }
        for (int bit = 35; bit < 64; bit++) {
            due.is("bit in a " + bit, x.set(1L << bit, 0), BAD);
            due.is("bit in b " + bit, x.set(0, 1L << bit), BAD);
        }
        due.is("all bits", x.set(-1, -1), BAD);
        due.is("told after those", x.told(0), 0);
        long most = weights(100, 100, 100, 100, 100);
        due.is("the greatest weights", x.set(most, most), 0);
        due.is("no weights", x.set(0, 0), 1);
        due.is("the like again", x.set(most, most), 2);
    }

    private static void setsAreFull(Due due) {
        LightChecks x = new LightChecks();
        for (int i = 0; i < 16; i++) {
            due.is("set " + i, x.set(i, 0), i);
        }
        due.is("set 17", x.set(1, 1), FULL);
        due.is("BAD comes ahead of FULL", x.set(101, 0), BAD);
        due.is("told after FULL", x.told(0), 16);
        due.is("the last set is there", x.head(0, 0, 15, 15, 0), 0);
        due.is("no set more", x.head(0, 0, 15, 16, 0), BAD);
    }

    private static void headsAreMade(Due due) {
        LightChecks x = new LightChecks();
        x.set(1, 0);
        x.set(2, 0);
        due.is("lowest", x.head(0, Long.MIN_VALUE, 0, 1, Long.MAX_VALUE), 0);
        due.is("highest", x.head(100000, -1, 1, 0, -1), 1);
        due.is("below", x.head(-1, 0, 0, 0, 0), BAD);
        due.is("above", x.head(100001, 0, 0, 0, 0), BAD);
        due.is("far below", x.head(Integer.MIN_VALUE, 0, 0, 0, 0), BAD);
        due.is("set below", x.head(5, 0, -1, 0, 0), BAD);
        due.is("set above", x.head(5, 0, 2, 0, 0), BAD);
        due.is("next below", x.head(5, 0, 0, -1, 0), BAD);
        due.is("next above", x.head(5, 0, 0, 2, 0), BAD);
        due.is("told after those", x.told(1), 2);
        due.is("nobody signed it", x.certified(0), 0);
        due.is("the first to sign", x.sign(0, 0), 1);
        due.is("one that the same is of", x.head(0, Long.MIN_VALUE, 0, 1, Long.MAX_VALUE), 2);
        due.is("nobody signed this one", x.certified(2), 0);
    }

    private static void headsAreFull(Due due) {
        LightChecks x = new LightChecks();
        x.set(1, 0);
        for (int i = 0; i < 60; i++) {
            due.is("head " + i, x.head(i, 0, 0, 0, 0), i);
        }
        due.is("head 61", x.head(0, 0, 0, 0, 0), FULL);
        due.is("BAD comes ahead of FULL", x.head(-1, 0, 0, 0, 0), BAD);
        due.is("BAD comes ahead of FULL, set", x.head(0, 0, 1, 0, 0), BAD);
        due.is("told after FULL", x.told(1), 60);
        due.is("the last head signs", x.sign(59, 0), 1);
        due.is("no head more", x.sign(60, 0), BAD);
    }

    private static void nodesSign(Due due) {
        LightChecks x = new LightChecks();
        x.set(1, 0);
        x.head(0, 0, 0, 0, 0);
        for (int node = 0; node < 10; node++) {
            due.is("signs " + node, x.sign(0, node), 1);
            due.is("signed " + node, x.sign(0, node), 0);
        }
        int[] none = {-1, 10, 32, 33, Integer.MIN_VALUE, Integer.MAX_VALUE};
        for (int wrong : none) {
            due.is("no such node " + wrong, x.sign(0, wrong), BAD);
            due.is("no such head " + wrong, x.sign(wrong, 0), BAD);
        }
        due.is("no head yet", x.sign(1, 0), BAD);
    }

    private static void termsChange(Due due) {
        int[] least = {1, 1, 1, 2}, most = {10, 10, 1000, 10}, first = {1, 3, 50, 4};
        LightChecks x = new LightChecks();
        for (int what = 0; what < 4; what++) {
            due.is("below " + what, x.term(what, least[what] - 1), BAD);
            due.is("above " + what, x.term(what, most[what] + 1), BAD);
            due.is("far below " + what, x.term(what, Integer.MIN_VALUE), BAD);
            due.is("least " + what, x.term(what, least[what]), first[what]);
            due.is("most " + what, x.term(what, most[what]), least[what]);
            due.is("refused " + what, x.term(what, 0), BAD);
            due.is("told " + what, x.told(2 + what), most[what]);
            due.is("the like again " + what, x.term(what, most[what]), most[what]);
        }
        due.is("term -1", x.term(-1, 5), BAD);
        due.is("term 4", x.term(4, 5), BAD);
        due.is("term far", x.term(Integer.MAX_VALUE, 5), BAD);
    }

    private static void digestsAreReckoned(Due due) {
        LightChecks x = new LightChecks();
        x.set(1, 0);
        x.set(1, 0);
        x.set(3, 0);
        long parent = 0x123456789ABCDEFL, root = Long.MIN_VALUE;
        x.head(77, parent, 1, 2, root);
        long want = PlainModel.pair(PlainModel.pair(PlainModel.pair(77, parent), PlainModel.pair(1, 2)), root);
        due.is("digest", x.digest(0), want);
        x.sign(0, 0);
        due.is("who signed does not matter", x.digest(0), want);
        x.head(0, 0, 0, 0, 0);
        due.is("digest of noughts", x.digest(1), -333387413715558862L);
        x.head(77, parent, 0, 2, root);
        due.holds("the number of a set matters, not its weights", x.digest(2) != want);
        due.is("digest -1", x.digest(-1), 0);
        due.is("digest 3", x.digest(3), 0);
        due.is("digest far", x.digest(Integer.MIN_VALUE), 0);
    }

    private static void twoThirdsAreNotAbove(Due due) {
        LightChecks x = new LightChecks();
        x.set(weights(20, 20, 19, 0, 1), 0);
        x.set(0, 0);
        x.set(0, weights(0, 0, 0, 0, 7));
        x.head(0, 0, 0, 2, 0);
        x.sign(0, 0);
        x.sign(0, 1);
        due.is("just two thirds", x.certified(0), 0);
        x.sign(0, 3);
        due.is("nothing more", x.certified(0), 0);
        x.sign(0, 4);
        due.is("one more", x.certified(0), 1);
        x.head(0, 0, 1, 1, 0);
        x.sign(1, 0);
        due.is("a set without weight", x.certified(1), 0);
        x.head(0, 0, 2, 0, 0);
        x.sign(2, 9);
        due.is("by its own set, not the next", x.certified(2), 1);
        due.is("no such head", x.certified(3), BAD);
        due.is("no such head -1", x.certified(-1), BAD);
    }

    private static void overlapsFollowTheTerms(Due due) {
        LightChecks x = new LightChecks();
        x.set(weights(10, 10, 9, 0, 1), 0);
        x.set(0, 0);
        x.head(0, 0, 0, 0, 0);
        x.sign(0, 0);
        due.is("just a third", x.overlaps(0, 0), 0);
        x.sign(0, 4);
        due.is("one above a third", x.overlaps(0, 0), 1);
        x.sign(0, 1);
        due.is("a set without weight", x.overlaps(0, 1), 0);
        x.term(0, 7);
        x.term(1, 10);
        due.is("21 of 30 by 7 of 10", x.overlaps(0, 0), 0);
        x.term(0, 6);
        due.is("21 of 30 by 6 of 10", x.overlaps(0, 0), 1);
        x.term(0, 10);
        x.term(1, 1);
        due.is("by 10 of 1", x.overlaps(0, 0), 0);
        due.is("certified keeps to its own two thirds", x.certified(0), 1);
        due.is("no such head", x.overlaps(1, 0), BAD);
        due.is("no such head -1", x.overlaps(-1, 0), BAD);
        due.is("no such set", x.overlaps(0, 2), BAD);
        due.is("no such set -1", x.overlaps(0, -1), BAD);
    }

    private static void numbersAreTold(Due due) {
        LightChecks x = new LightChecks();
        x.set(1, 0);
        x.set(1, 0);
        x.head(0, 0, 0, 0, 0);
        x.term(0, 5);
        x.term(1, 6);
        x.term(2, 7);
        x.term(3, 8);
        long[] told = {2, 1, 5, 6, 7, 8};
        for (int what = 0; what < told.length; what++) {
            due.is("told " + what, x.told(what), told[what]);
        }
        int[] none = {-1, 6, Integer.MIN_VALUE, Integer.MAX_VALUE};
        for (int wrong : none) {
            due.is("told " + wrong, x.told(wrong), BAD);
        }
    }
}
