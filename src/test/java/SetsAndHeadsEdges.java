/** The edges of 'Terms' on sets and heads, and of promises 2 to 8 and 25. */
final class SetsAndHeadsEdges extends Worlds {
    private static final String TERMS = "Terms";

    static void all(Due due) {
        termsMix(due);
        termsPair(due);
        termsSixteenSets(due);
        termsNodesAndWeights(due);
        termsSetsNeverChange(due);
        termsSixtyHeads(due);
        termsHeights(due);
        termsParentSetNextRoot(due);
        termsNodesThatSigned(due);
        termsDigest(due);
        termsDigestWhoSigned(due);
        termsCertified(due);
        termsOverlaps(due);
        termsAbove(due);
        termsBelow(due);
        termsSpan(due);
        termsRows(due);
        promise2WeightsInSevenBits(due);
        promise2BadAbove100(due);
        promise2BadMoreBits(due);
        promise2Full(due);
        promise3SignedByNobody(due);
        promise3BadHeight(due);
        promise3BadSets(due);
        promise3Full(due);
        promise4SignsOnce(due);
        promise4Bad(due);
        promise5WhichItWas(due);
        promise5Bad(due);
        promise6NoneSuch(due);
        promise7Certified(due);
        promise7Bad(due);
        promise8Overlaps(due);
        promise8Bad(due);
        promise25Told(due);
        promise25Bad(due);
    }

    private static void termsMix(Due due) {
        due.sentence(TERMS, "MIX of x: x becomes x ^ x >>> 30, times 0xBF58476D1CE4E5B9; "
            + "x ^ x >>> 27, times 0x94D049BB133111EB; x ^ x >>> 31.");
        LightChecks x = new LightChecks();
        long[] of = {0, 1, -1, Long.MIN_VALUE, Long.MAX_VALUE, 1L << 30, 1L << 31};
        long[] mixed = {0, 6238072747940578789L, -5417735806833148549L, 2720858781877447050L, 6514504133438201533L,
            3143522559155490559L, -1436547171018572641L};
        for (int i = 0; i < of.length; i++) {
            x.leaf(i, of[i]);
            due.is("of " + of[i], x.tree(8 + i), mixed[i]);
        }
    }

    private static void termsPair(Due due) {
        due.sentence(TERMS, "PAIR of a and b: MIX(MIX(a) + 3 MIX(b) + 0x9E3779B97F4A7C15).");
        LightChecks x = new LightChecks();
        due.is("of noughts", x.tree(4), -2152535657050944081L);
        x.leaf(0, 1);
        due.is("of 1 and 0, mixed", x.tree(4), 4720248854425330031L);
        x.leaf(3, 1);
        due.is("of 0 and 1, mixed: the sides are not alike", x.tree(5), -4270071229831824557L);
        x.leaf(4, -1);
        x.leaf(5, Long.MIN_VALUE);
        due.is("a sum that wraps", x.tree(6), 2049743585077262390L);
        x.leaf(6, Long.MIN_VALUE);
        x.leaf(7, -1);
        due.is("a sum that wraps, turned", x.tree(7), 7465680370924846829L);
    }

    private static void termsSixteenSets(Due due) {
        due.sentence(TERMS, "SETS (16 at most)");
        LightChecks x = new LightChecks();
        for (int i = 0; i < 16; i++) {
            due.is("set " + i, x.set(1, 0), i);
        }
        due.is("one more", x.set(1, 0), FULL);
        due.is("the 16th is there", x.head(0, 0, 15, 15, 0), 0);
        due.is("a 17th is not, as a set", x.head(0, 0, 16, 15, 0), BAD);
        due.is("a 17th is not, as next", x.head(0, 0, 15, 16, 0), BAD);
        due.is("a 17th is not, to overlap with", x.overlaps(0, 16), BAD);
    }

    private static void termsNodesAndWeights(Due due) {
        due.sentence(TERMS, "give each NODE 0 .. 9 a WEIGHT 0 .. 100;");
        LightChecks x = new LightChecks();
        long most = weights(100, 100, 100, 100, 100);
        due.is("all weigh 0", x.set(0, 0), 0);
        due.is("all weigh 100", x.set(most, most), 1);
        due.is("node 0 weighs 101", x.set(101, 0), BAD);
        due.is("node 9 weighs 101", x.set(0, 101L << 28), BAD);
        x.head(0, 0, 1, 1, 0);
        due.is("node 0", x.sign(0, 0), 1);
        due.is("node 9", x.sign(0, 9), 1);
        due.is("node -1", x.sign(0, -1), BAD);
        due.is("node 10", x.sign(0, 10), BAD);
        x.term(0, 2);
        x.term(1, 10);
        due.is("nodes 0 and 9 weigh 200 of 1000: no more than 2 of 10", x.overlaps(0, 1), 0);
        x.term(0, 1);
        x.term(1, 6);
        due.is("but more than 1 of 6", x.overlaps(0, 1), 1);
    }

    private static void termsSetsNeverChange(Due due) {
        due.sentence(TERMS, "they never change.");
        LightChecks x = new LightChecks();
        x.set(100, 0);
        x.head(0, 0, 0, 0, 0);
        x.sign(0, 0);
        due.is("by the first set", x.certified(0), 1);
        for (int i = 1; i < 16; i++) {
            x.set(0, 100);
        }
        x.set(0, 100);
        x.set(101, 0);
        due.is("sets more, a full room and a wrong one", x.certified(0), 1);
        due.is("it overlaps still", x.overlaps(0, 0), 1);
        due.is("and not with a later one", x.overlaps(0, 15), 0);
    }

    private static void termsSixtyHeads(Due due) {
        due.sentence(TERMS, "HEADS (60 at most)");
        LightChecks x = new LightChecks();
        x.set(1, 0);
        for (int i = 0; i < 60; i++) {
            due.is("head " + i, x.head(7, i, 0, 0, 0), i);
        }
        due.is("one more", x.head(7, 0, 0, 0, 0), FULL);
        due.is("the 60th is there", x.certified(59), 0);
        due.is("a 61st is not", x.certified(60), BAD);
        due.is("a giver may have any of them", x.give(3, 59), NONE);
        due.is("a client too", x.start(3, 59), 1);
    }

    private static void termsHeights(Due due) {
        due.sentence(TERMS, "have a HEIGHT (0 .. 100000)");
        LightChecks x = new LightChecks();
        x.set(1, 0);
        due.is("-1", x.head(-1, 0, 0, 0, 0), BAD);
        due.is("0", x.head(0, 0, 0, 0, 0), 0);
        due.is("100000", x.head(100000, 0, 0, 0, 0), 1);
        due.is("100001", x.head(100001, 0, 0, 0, 0), BAD);
        x.start(0, 0);
        due.is("-1 is sought", x.seek(0, 0, -1), BAD);
        due.is("0 is sought", x.seek(0, 0, 0), -17);
        due.is("100000 is sought", x.seek(0, 0, 100000), -17);
        due.is("100001 is sought", x.seek(0, 0, 100001), BAD);
    }

    private static void termsParentSetNextRoot(Due due) {
        due.sentence(TERMS, "a PARENT (a long), a SET, a NEXT (a SET), a ROOT (a long),");
        LightChecks x = new LightChecks();
        for (int i = 0; i < 16; i++) {
            x.set(1, 0);
        }
        due.is("least parent, greatest root", x.head(100000, Long.MIN_VALUE, 0, 1, Long.MAX_VALUE), 0);
        due.is("its digest", x.digest(0), 4435937837171697668L);
        due.is("set and next changed about", x.head(100000, Long.MIN_VALUE, 1, 0, Long.MAX_VALUE), 1);
        due.is("its digest", x.digest(1), 459315634096900199L);
        due.is("the last set, least root", x.head(1, Long.MAX_VALUE, 15, 15, Long.MIN_VALUE), 2);
        due.is("its digest", x.digest(2), -1156797587823489292L);
        due.is("parent and root -1", x.head(1, -1, 0, 0, -1), 3);
        due.is("its digest", x.digest(3), 35036836949015093L);
    }

    private static void termsNodesThatSigned(Due due) {
        due.sentence(TERMS, "and the NODES that SIGNED it.");
        LightChecks x = new LightChecks();
        for (int node = 0; node < 10; node++) {
            x.set(node < 5 ? 1L << 7 * node : 0, node < 5 ? 0 : 1L << 7 * (node - 5));
        }
        x.head(0, 0, 0, 0, 0);
        x.head(0, 0, 0, 0, 0);
        for (int node = 0; node < 10; node++) {
            due.is("before node " + node, x.overlaps(0, node), 0);
            x.sign(0, node);
            due.is("behind node " + node, x.overlaps(0, node), 1);
            due.is("not on another head, node " + node, x.overlaps(1, node), 0);
        }
    }

    private static void termsDigest(Due due) {
        due.sentence(TERMS, "DIGEST of a HEAD: PAIR(PAIR(PAIR(HEIGHT, PARENT), PAIR(SET, NEXT)), ROOT), "
            + "with the numbers of its SETS");
        LightChecks x = new LightChecks();
        x.set(9, 0);
        x.set(9, 0);
        x.head(0, 0, 0, 0, 0);
        due.is("all noughts", x.digest(0), -333387413715558862L);
        x.head(1, 1, 1, 1, 1);
        due.is("all ones", x.digest(1), -3448137857765236588L);
        x.head(0, 0, 1, 0, 0);
        due.is("another set of like weights", x.digest(2), PlainModel.pair(PlainModel.pair(PlainModel.pair(0, 0), PlainModel.pair(1, 0)), 0));
        x.head(0, 0, 0, 1, 0);
        due.is("another next of like weights", x.digest(3), PlainModel.pair(PlainModel.pair(PlainModel.pair(0, 0), PlainModel.pair(0, 1)), 0));
        x.head(0, 0, 0, 0, 0);
        due.is("a like head", x.digest(4), x.digest(0));
    }

    private static void termsDigestWhoSigned(Due due) {
        due.sentence(TERMS, "(who SIGNED does not matter).");
        LightChecks x = new LightChecks();
        x.set(1, 0);
        x.head(0, 0, 0, 0, 0);
        for (int node = 0; node < 10; node++) {
            x.sign(0, node);
            due.is("signed by " + node, x.digest(0), -333387413715558862L);
        }
    }

    private static void termsCertified(Due due) {
        due.sentence(TERMS, "A HEAD is CERTIFIED, if 3 times the WEIGHT (by its SET) of those that SIGNED it "
            + "is above 2 times the WEIGHT of all in that SET.");
        LightChecks x = new LightChecks();
        x.set(weights(66, 1, 33), 0);
        x.set(weights(40, 1, 20), weights(0, 0, 0, 0, 2));
        x.set(0, 0);
        long most = weights(100, 100, 100, 100, 100);
        x.set(most, most);
        due.is("66 of 100", x.certified(made(x, 0, 0, 0, 1, 0)), 0);
        due.is("67 of 100", x.certified(made(x, 0, 0, 0, 1, 0, 1)), 1);
        due.is("42 of 63 are just two thirds", x.certified(made(x, 0, 0, 1, 0, 0, 9)), 0);
        due.is("43 of 63", x.certified(made(x, 0, 0, 1, 0, 0, 1, 9)), 1);
        due.is("nobody of 100", x.certified(made(x, 0, 0, 0, 0)), 0);
        due.is("0 of 0", x.certified(made(x, 0, 0, 2, 0, 0, 1, 2, 3, 4, 5, 6, 7, 8, 9)), 0);
        due.is("600 of 1000", x.certified(made(x, 0, 0, 3, 0, 0, 1, 2, 3, 4, 5)), 0);
        due.is("700 of 1000", x.certified(made(x, 0, 0, 3, 0, 3, 4, 5, 6, 7, 8, 9)), 1);
        due.is("all by next, and by its set not enough", x.certified(made(x, 0, 0, 3, 0, 0, 1, 2)), 0);
        x.term(0, 10);
        x.term(1, 1);
        due.is("the terms do not matter", x.certified(1), 1);
    }

    private static void termsOverlaps(Due due) {
        due.sentence(TERMS, "It OVERLAPS with a SET, if BELOW times the WEIGHT (by that SET) of those that SIGNED it "
            + "is above ABOVE times the WEIGHT of all in it.");
        LightChecks x = new LightChecks();
        x.set(weights(20, 1, 39), 0);
        x.set(0, 0);
        x.set(0, weights(0, 0, 0, 0, 5));
        int third = made(x, 0, 0, 2, 2, 0), more = made(x, 0, 0, 2, 2, 0, 1), all = made(x, 0, 0, 2, 2, 0, 1, 2);
        due.is("20 of 60 are just a third", x.overlaps(third, 0), 0);
        due.is("21 of 60", x.overlaps(more, 0), 1);
        due.is("0 of 0", x.overlaps(all, 1), 0);
        due.is("nobody of its own set", x.overlaps(all, 2), 0);
        x.term(1, 1);
        due.is("all, by 1 of 1", x.overlaps(all, 0), 0);
        x.term(1, 2);
        due.is("all, by 1 of 2", x.overlaps(all, 0), 1);
        due.is("21 of 60, by 1 of 2", x.overlaps(more, 0), 0);
        x.term(0, 10);
        x.term(1, 10);
        due.is("all, by 10 of 10", x.overlaps(all, 0), 0);
        x.term(0, 9);
        due.is("all, by 9 of 10", x.overlaps(all, 0), 1);
        x.term(0, 10);
        x.term(1, 1);
        due.is("all, by 10 of 1", x.overlaps(all, 0), 0);
    }

    private static void termsAbove(Due due) {
        due.sentence(TERMS, "TERMS: 0 ABOVE 1 .. 10 (1 at first),");
        termHas(due, 0, 1, 10, 1);
    }

    private static void termsBelow(Due due) {
        due.sentence(TERMS, "1 BELOW 1 .. 10 (3),");
        termHas(due, 1, 1, 10, 3);
    }

    private static void termsSpan(Due due) {
        due.sentence(TERMS, "2 SPAN 1 .. 1000 (50),");
        termHas(due, 2, 1, 1000, 50);
    }

    private static void termsRows(Due due) {
        due.sentence(TERMS, "3 ROWS 2 .. 10 (4).");
        termHas(due, 3, 2, 10, 4);
    }

    private static void termHas(Due due, int what, int least, int most, int atFirst) {
        LightChecks x = new LightChecks();
        due.is("at first", x.told(2 + what), atFirst);
        due.is("too small", x.term(what, least - 1), BAD);
        due.is("too large", x.term(what, most + 1), BAD);
        due.is("as it was", x.told(2 + what), atFirst);
        due.is("the least", x.term(what, least), atFirst);
        due.is("the least is told", x.told(2 + what), least);
        due.is("the most", x.term(what, most), least);
        due.is("the most is told", x.told(2 + what), most);
    }

    private static void promise2WeightsInSevenBits(Due due) {
        due.sentence("Promise 2", "A SET more, with WEIGHTS of NODES 0 .. 4 as the lowest seven bits of a, the next seven, .., "
            + "those of 5 .. 9 likewise in b: its number.");
        LightChecks x = new LightChecks();
        for (int node = 0; node < 10; node++) {
            long one = 100L << 7 * (node % 5);
            due.is("all weight on node " + node, x.set(node < 5 ? one : 0, node < 5 ? 0 : one), node);
        }
        for (int node = 0; node < 10; node++) {
            x.head(0, 0, 0, 0, 0);
            x.sign(node, node);
            for (int set = 0; set < 10; set++) {
                due.is("signed by " + node + ", weight on " + set, x.overlaps(node, set), node == set ? 1 : 0);
            }
        }
    }

    private static void promise2BadAbove100(Due due) {
        due.sentence("Promise 2", "BAD: one is above 100,");
        LightChecks x = new LightChecks();
        for (int place = 0; place < 5; place++) {
            for (int weight : new int[] {101, 102, 127}) {
                due.is(weight + " in a at " + place, x.set((long) weight << 7 * place, 0), BAD);
                due.is(weight + " in b at " + place, x.set(0, (long) weight << 7 * place), BAD);
            }
        }
        due.is("no set was made", x.told(0), 0);
        for (int place = 0; place < 5; place++) {
            due.is("100 at " + place, x.set(100L << 7 * place, 100L << 7 * place), place);
        }
    }

    private static void promise2BadMoreBits(Due due) {
        due.sentence("Promise 2", "or a, b have more bits;");
        LightChecks x = new LightChecks();
        for (int bit = 35; bit < 64; bit++) {
            due.is("bit " + bit + " of a", x.set(1L << bit, 0), BAD);
            due.is("bit " + bit + " of b", x.set(0, 1L << bit), BAD);
        }
        due.is("-1 has all bits", x.set(-1, 0), BAD);
        due.is("so has b", x.set(0, -1), BAD);
        due.is("the least long", x.set(Long.MIN_VALUE, Long.MIN_VALUE), BAD);
        due.is("bit 34 is the last of a weight of 64", x.set(1L << 34, 1L << 34), 0);
    }

    private static void promise2Full(Due due) {
        due.sentence("Promise 2", "FULL.");
        LightChecks x = new LightChecks();
        for (int i = 0; i < 15; i++) {
            x.set(1, 0);
        }
        due.is("the 16th", x.set(0, 0), 15);
        due.is("the 17th", x.set(0, 0), FULL);
        due.is("again", x.set(0, 0), FULL);
        due.is("told", x.told(0), 16);
    }

    private static void promise3SignedByNobody(Due due) {
        due.sentence("Promise 3", "A HEAD more, SIGNED by nobody: its number.");
        LightChecks x = new LightChecks();
        x.set(1, 0);
        due.is("the first", x.head(5, 0, 0, 0, 0), 0);
        x.sign(0, 0);
        due.is("another one like it", x.head(5, 0, 0, 0, 0), 1);
        due.is("the other one is signed", x.certified(0), 1);
        due.is("this one is not", x.certified(1), 0);
        for (int node = 0; node < 10; node++) {
            due.is("node " + node + " had not signed it", x.sign(1, node), 1);
        }
    }

    private static void promise3BadHeight(Due due) {
        due.sentence("Promise 3", "BAD: HEIGHT,");
        LightChecks x = new LightChecks();
        x.set(1, 0);
        for (int wrong : new int[] {-1, 100001, LEAST, MOST}) {
            due.is("height " + wrong, x.head(wrong, 0, 0, 0, 0), BAD);
        }
        due.is("none was made", x.told(1), 0);
        due.is("height 0", x.head(0, 0, 0, 0, 0), 0);
        due.is("height 100000", x.head(100000, 0, 0, 0, 0), 1);
    }

    private static void promise3BadSets(Due due) {
        due.sentence("Promise 3", "SETS;");
        LightChecks x = new LightChecks();
        x.set(1, 0);
        x.set(1, 0);
        for (int wrong : new int[] {-1, 2, 15, 16, LEAST, MOST}) {
            due.is("set " + wrong, x.head(5, 0, wrong, 0, 0), BAD);
            due.is("next " + wrong, x.head(5, 0, 0, wrong, 0), BAD);
        }
        due.is("none was made", x.told(1), 0);
        due.is("the last set and next", x.head(5, 0, 1, 1, 0), 0);
    }

    private static void promise3Full(Due due) {
        due.sentence("Promise 3", "FULL.");
        LightChecks x = new LightChecks();
        x.set(1, 0);
        for (int i = 0; i < 59; i++) {
            x.head(i, 0, 0, 0, 0);
        }
        due.is("the 60th", x.head(0, 0, 0, 0, 0), 59);
        due.is("the 61st", x.head(0, 0, 0, 0, 0), FULL);
        due.is("again", x.head(0, 0, 0, 0, 0), FULL);
        due.is("told", x.told(1), 60);
    }

    private static void promise4SignsOnce(Due due) {
        due.sentence("Promise 4", "A NODE SIGNS a HEAD: 1; 0: it did.");
        LightChecks x = new LightChecks();
        x.set(weights(1), 0);
        x.head(0, 0, 0, 0, 0);
        x.head(0, 0, 0, 0, 0);
        for (int node = 0; node < 10; node++) {
            due.is("node " + node, x.sign(0, node), 1);
            due.is("node " + node + " again", x.sign(0, node), 0);
            due.is("node " + node + ", another head", x.sign(1, node), 1);
        }
        due.is("what it did stays done", x.certified(0), 1);
    }

    private static void promise4Bad(Due due) {
        due.sentence("Promise 4", "BAD.");
        LightChecks x = new LightChecks();
        x.set(weights(1), 0);
        x.head(0, 0, 0, 0, 0);
        for (int wrong : new int[] {-1, 10, 31, 32, 64, LEAST, MOST}) {
            due.is("node " + wrong, x.sign(0, wrong), BAD);
        }
        for (int wrong : new int[] {-1, 1, 59, 60, LEAST, MOST}) {
            due.is("head " + wrong, x.sign(wrong, 0), BAD);
        }
        due.is("nobody signed by that", x.certified(0), 0);
        due.is("node 0 had not", x.sign(0, 0), 1);
    }

    private static void promise5WhichItWas(Due due) {
        due.sentence("Promise 5", "A TERM becomes v: which it was.");
        LightChecks x = new LightChecks();
        int[] first = {1, 3, 50, 4};
        for (int what = 0; what < 4; what++) {
            due.is("term " + what, x.term(what, 6 + what % 2), first[what]);
        }
        for (int what = 0; what < 4; what++) {
            due.is("term " + what + " is the new one, and stays", x.term(what, 6 + what % 2), 6 + what % 2);
            due.is("told " + what, x.told(2 + what), 6 + what % 2);
        }
    }

    private static void promise5Bad(Due due) {
        due.sentence("Promise 5", "BAD.");
        LightChecks x = new LightChecks();
        int[] least = {1, 1, 1, 2}, most = {10, 10, 1000, 10};
        for (int what = 0; what < 4; what++) {
            for (int wrong : new int[] {least[what] - 1, most[what] + 1, -1, LEAST, MOST}) {
                due.is("term " + what + " of " + wrong, x.term(what, wrong), BAD);
            }
        }
        for (int wrong : new int[] {-1, 4, 5, LEAST, MOST}) {
            due.is("term " + wrong, x.term(wrong, 5), BAD);
        }
        int[] told = {1, 3, 50, 4};
        for (int what = 0; what < 4; what++) {
            due.is("as at first " + what, x.told(2 + what), told[what]);
        }
    }

    private static void promise6NoneSuch(Due due) {
        due.sentence("Promise 6", "The DIGEST of a HEAD; 0: there is none such.");
        LightChecks x = new LightChecks();
        x.set(1, 0);
        due.is("no head yet", x.digest(0), 0);
        x.head(0, 0, 0, 0, 0);
        due.is("head 0", x.digest(0), -333387413715558862L);
        for (int wrong : new int[] {-1, 1, 59, 60, LEAST, MOST}) {
            due.is("head " + wrong, x.digest(wrong), 0);
        }
    }

    private static void promise7Certified(Due due) {
        due.sentence("Promise 7", "Whether a HEAD is CERTIFIED: 1, 0.");
        LightChecks x = new LightChecks();
        x.set(weights(1, 1, 1), 0);
        x.head(0, 0, 0, 0, 0);
        due.is("by nobody", x.certified(0), 0);
        x.sign(0, 0);
        x.sign(0, 1);
        due.is("by two of three", x.certified(0), 0);
        x.sign(0, 2);
        due.is("by all", x.certified(0), 1);
    }

    private static void promise7Bad(Due due) {
        due.sentence("Promise 7", "BAD.");
        LightChecks x = new LightChecks();
        due.is("no head yet", x.certified(0), BAD);
        x.set(1, 0);
        x.head(0, 0, 0, 0, 0);
        for (int wrong : new int[] {-1, 1, 59, 60, LEAST, MOST}) {
            due.is("head " + wrong, x.certified(wrong), BAD);
        }
    }

    private static void promise8Overlaps(Due due) {
        due.sentence("Promise 8", "Whether a HEAD OVERLAPS with a SET: 1, 0.");
        LightChecks x = new LightChecks();
        x.set(weights(1, 1, 1), 0);
        x.set(weights(0, 1, 1), 0);
        x.set(0, 1);
        x.head(0, 0, 0, 0, 0);
        due.is("by nobody", x.overlaps(0, 0), 0);
        x.sign(0, 0);
        due.is("by one of three", x.overlaps(0, 0), 0);
        x.sign(0, 1);
        due.is("by two of three", x.overlaps(0, 0), 1);
        due.is("by one of two, another set than its own", x.overlaps(0, 1), 1);
        due.is("by nobody of another set, though by two of its own three", x.overlaps(0, 2), 0);
    }

    private static void promise8Bad(Due due) {
        due.sentence("Promise 8", "BAD.");
        LightChecks x = new LightChecks();
        due.is("neither head nor set yet", x.overlaps(0, 0), BAD);
        x.set(1, 0);
        due.is("no head yet", x.overlaps(0, 0), BAD);
        x.head(0, 0, 0, 0, 0);
        for (int wrong : new int[] {-1, 1, 15, 16, 59, 60, LEAST, MOST}) {
            due.is("head " + wrong, x.overlaps(wrong, 0), BAD);
            due.is("set " + wrong, x.overlaps(0, wrong), BAD);
        }
        due.is("head and set 0", x.overlaps(0, 0), 0);
    }

    private static void promise25Told(Due due) {
        due.sentence("Promise 25", "0 SETS, 1 HEADS, 2 .. 5 TERMS.");
        LightChecks x = new LightChecks();
        long[] first = {0, 0, 1, 3, 50, 4};
        for (int what = 0; what < 6; what++) {
            due.is("told " + what + " at first", x.told(what), first[what]);
        }
        for (int i = 0; i < 16; i++) {
            x.set(1, 0);
        }
        for (int i = 0; i < 60; i++) {
            x.head(i, 0, 0, 0, 0);
        }
        int[] most = {10, 10, 1000, 10};
        for (int what = 0; what < 4; what++) {
            x.term(what, most[what]);
        }
        long[] last = {16, 60, 10, 10, 1000, 10};
        for (int what = 0; what < 6; what++) {
            due.is("told " + what + " at last", x.told(what), last[what]);
        }
    }

    private static void promise25Bad(Due due) {
        due.sentence("Promise 25", "BAD.");
        LightChecks x = new LightChecks();
        for (int wrong : new int[] {-1, 6, 7, LEAST, LEAST + 2, MOST}) {
            due.is("told " + wrong, x.told(wrong), BAD);
        }
    }
}
