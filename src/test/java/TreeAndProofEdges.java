/** The edges of 'Terms' on the tree, steps and proofs, and of promises 17 to 22. */
final class TreeAndProofEdges extends Worlds {
    private static final String TERMS = "Terms";
    // For each pair of leaves, a below b, the nodes beside their ways to the top, written out by hand.
    private static final int[][] BESIDE = {
        {0, 1, 5, 3}, {0, 2, 11, 9, 3}, {0, 3, 10, 9, 3}, {0, 4, 13, 9, 7, 5}, {0, 5, 12, 9, 7, 5}, {0, 6, 15, 9, 6, 5}, {0, 7, 14, 9, 6, 5},
        {1, 2, 11, 8, 3}, {1, 3, 10, 8, 3}, {1, 4, 13, 8, 7, 5}, {1, 5, 12, 8, 7, 5}, {1, 6, 15, 8, 6, 5}, {1, 7, 14, 8, 6, 5},
        {2, 3, 4, 3}, {2, 4, 13, 11, 7, 4}, {2, 5, 12, 11, 7, 4}, {2, 6, 15, 11, 6, 4}, {2, 7, 14, 11, 6, 4},
        {3, 4, 13, 10, 7, 4}, {3, 5, 12, 10, 7, 4}, {3, 6, 15, 10, 6, 4}, {3, 7, 14, 10, 6, 4},
        {4, 5, 7, 2}, {4, 6, 15, 13, 2}, {4, 7, 14, 13, 2}, {5, 6, 15, 12, 2}, {5, 7, 14, 12, 2}, {6, 7, 6, 2}};

    static void all(Due due) {
        termsLeaves0To7(due);
        termsNodesOfLeaves(due);
        termsNodesOfPairs(due);
        termsAmountAbove0(due);
        termsSoMuchLessAndMore(due);
        termsLessThanAmount(due);
        termsLeafBelow0(due);
        termsBothLeavesNumbers(due);
        termsNodesThatAreNeeded(due);
        termsGreaterNumbersFirst(due);
        termsFourAtMost(due);
        termsFraudTopIsTheRootBefore(due);
        termsFraudNotTheRootBehind(due);
        promise17WhatItWas(due);
        promise18Nodes1To15(due);
        promise19HowManyNodes(due);
        promise19Bad(due);
        promise20Numbers(due);
        promise20Others(due);
        promise21Altered(due);
        promise21Bad(due);
        promise22ShowsAFraud(due);
        promise22AsItShouldBe(due);
        promise22None(due);
        promise22Bad(due);
    }

    /** An object with one set and eight different leaves. */
    private static LightChecks grown() {
        LightChecks x = new LightChecks();
        x.set(1, 0);
        for (int k = 0; k < 8; k++) {
            x.leaf(k, 100 + k);
        }
        return x;
    }

    private static void termsLeaves0To7(Due due) {
        due.sentence(TERMS, "THE TREE has LEAVES 0 .. 7 (longs, 0 at first).");
        LightChecks x = new LightChecks();
        for (int k = 0; k < 8; k++) {
            due.is("at first " + k, x.leaf(k, Long.MIN_VALUE + k), 0);
        }
        for (int k = 0; k < 8; k++) {
            due.is("near the least long " + k, x.leaf(k, Long.MAX_VALUE - k), Long.MIN_VALUE + k);
        }
        long top = x.tree(1);
        due.is("leaf -1", x.leaf(-1, 5), 0);
        due.is("leaf 8", x.leaf(8, 5), 0);
        due.is("no leaf changed by that", x.tree(1), top);
        for (int k = 0; k < 8; k++) {
            due.is("near the greatest long " + k, x.leaf(k, 0), Long.MAX_VALUE - k);
        }
    }

    private static void termsNodesOfLeaves(Due due) {
        due.sentence(TERMS, "Its NODES: 8 .. 15 are MIX of LEAF 0 .. 7;");
        LightChecks x = new LightChecks();
        long[] leaves = {Long.MIN_VALUE, Long.MAX_VALUE, -1, 0, 1, 2, 3, 4};
        long[] mixed = {2720858781877447050L, 6514504133438201533L, -5417735806833148549L, 0, 6238072747940578789L,
            -2606959012126976886L, 2185194620014831856L, -5213918032843888364L};
        for (int k = 0; k < 8; k++) {
            x.leaf(k, leaves[k]);
            due.is("node " + (8 + k), x.tree(8 + k), mixed[k]);
        }
        for (int k = 0; k < 8; k++) {
            due.is("node " + (8 + k) + " yet", x.tree(8 + k), mixed[k]);
        }
    }

    private static void termsNodesOfPairs(Due due) {
        due.sentence(TERMS, "k of 1 .. 7 is PAIR of 2 k and 2 k + 1; 1 is its TOP.");
        LightChecks x = new LightChecks();
        long[] leaves = {Long.MIN_VALUE, Long.MAX_VALUE, -1, 0, 1, 2, 3, 4};
        long[] nodes = {0, 6457650137474423680L, 9006864705989166856L, -4375668459411906424L, -7279676593170971682L,
            740690186478656347L, -8172685856507837617L, 1822124362115015894L};
        for (int k = 0; k < 8; k++) {
            x.leaf(k, leaves[k]);
        }
        for (int k = 1; k < 8; k++) {
            due.is("node " + k, x.tree(k), nodes[k]);
        }
        for (int leaf = 0; leaf < 8; leaf++) {
            long top = x.tree(1);
            x.leaf(leaf, 77);
            due.holds("the top changes with leaf " + leaf, x.tree(1) != top);
        }
    }

    private static void termsAmountAbove0(Due due) {
        due.sentence(TERMS, "A STEP moves an AMOUNT (above 0) from LEAF a to LEAF b, another one:");
        LightChecks x = grown();
        x.prove(0, 1);
        int before = rooted(x, x.tree(1));
        due.is("an amount of 0", x.fraud(before, before, 0), BAD);
        due.is("an amount of -1", x.fraud(before, before, -1), BAD);
        x.leaf(0, 99);
        x.leaf(1, 102);
        int behind = rooted(x, x.tree(1));
        due.is("an amount of 1, from 0 to 1", x.fraud(before, behind, 1), 0);
        due.is("from a leaf to itself", x.prove(0, 0), BAD);
        x.leaf(0, 100);
        x.leaf(1, 101);
        x.prove(1, 0);
        due.is("an amount of 1, from 1 to 0", x.fraud(before, behind, 1), 1);
    }

    private static void termsSoMuchLessAndMore(Due due) {
        due.sentence(TERMS, "LEAF a has so much less, LEAF b more;");
        LightChecks x = new LightChecks();
        x.set(1, 0);
        x.leaf(3, Long.MAX_VALUE);
        x.leaf(4, Long.MAX_VALUE);
        x.prove(3, 4);
        int before = rooted(x, x.tree(1));
        due.is("1", x.fraud(before, behind(x, Long.MAX_VALUE - 1, Long.MIN_VALUE), 1), 0);
        due.is("all of the greatest long, leaf b wraps", x.fraud(before, behind(x, 0, -2), Long.MAX_VALUE), 0);
        due.is("only leaf a has less", x.fraud(before, behind(x, Long.MAX_VALUE - 1, Long.MAX_VALUE), 1), 1);
        due.is("only leaf b has more", x.fraud(before, behind(x, Long.MAX_VALUE, Long.MIN_VALUE), 1), 1);
    }

    /** A head with the root that the tree has with these leaves 3 and 4. */
    private static int behind(LightChecks x, long leaf3, long leaf4) {
        x.leaf(3, leaf3);
        x.leaf(4, leaf4);
        return rooted(x, x.tree(1));
    }

    private static void termsLessThanAmount(Due due) {
        due.sentence(TERMS, "with less in LEAF a than AMOUNT");
        LightChecks x = new LightChecks();
        x.set(1, 0);
        x.leaf(3, 10);
        x.prove(3, 4);
        int before = rooted(x, x.tree(1));
        due.is("1 less than the amount: nothing moves", x.fraud(before, before, 11), 0);
        due.is("far less than the amount", x.fraud(before, before, Long.MAX_VALUE), 0);
        due.is("as if it had moved", x.fraud(before, behind(x, -1, 11), 11), 1);
        due.is("just the amount moves", x.fraud(before, behind(x, 0, 10), 10), 0);
        due.is("just the amount, as if nothing had moved", x.fraud(before, before, 10), 1);
        x.leaf(3, 0);
        x.leaf(4, 0);
        x.prove(3, 4);
        int empty = rooted(x, x.tree(1));
        due.is("0 in it", x.fraud(empty, empty, 1), 0);
    }

    private static void termsLeafBelow0(Due due) {
        due.sentence(TERMS, "(or LEAF a below 0) nothing moves.");
        for (long low : new long[] {-1, -5, Long.MIN_VALUE}) {
            LightChecks x = new LightChecks();
            x.set(1, 0);
            x.leaf(3, low);
            x.leaf(4, 50);
            x.prove(3, 4);
            int before = rooted(x, x.tree(1));
            for (long amount : new long[] {1, 5, Long.MAX_VALUE}) {
                due.is(low + " in it, " + amount, x.fraud(before, before, amount), 0);
                due.is(low + " in it, " + amount + ", as if it had moved",
                    x.fraud(before, behind(x, low - amount, 50 + amount), amount), 1);
            }
            x.leaf(3, 50);
            x.leaf(4, low);
            x.prove(3, 4);
            int other = rooted(x, x.tree(1));
            due.is("leaf b may be " + low, x.fraud(other, behind(x, 49, low + 1), 1), 0);
        }
    }

    private static void termsBothLeavesNumbers(Due due) {
        due.sentence(TERMS, "A PROOF for a and b: both LEAVES' numbers,");
        LightChecks x = grown();
        x.leaf(7, Long.MIN_VALUE);
        x.leaf(0, Long.MAX_VALUE);
        x.prove(7, 0);
        due.is("leaf a", x.proof(2), Long.MIN_VALUE);
        due.is("leaf b", x.proof(3), Long.MAX_VALUE);
        x.prove(0, 7);
        due.is("leaf a, turned", x.proof(2), Long.MAX_VALUE);
        due.is("leaf b, turned", x.proof(3), Long.MIN_VALUE);
    }

    private static void termsNodesThatAreNeeded(Due due) {
        due.sentence(TERMS, "and the NODES that are needed to reckon TOP from the NODES of both,");
        LightChecks x = grown();
        for (int[] row : BESIDE) {
            due.is("how many for " + row[0] + ", " + row[1], x.prove(row[0], row[1]), row.length - 2);
            due.is("how many for " + row[1] + ", " + row[0], x.prove(row[1], row[0]), row.length - 2);
        }
        int before = rooted(x, x.tree(1));
        for (int[] row : BESIDE) {
            x.prove(row[0], row[1]);
            due.is("top comes of them for " + row[0] + ", " + row[1], x.fraud(before, before, 1000), 0);
            x.prove(row[1], row[0]);
            due.is("top comes of them for " + row[1] + ", " + row[0], x.fraud(before, before, 1000), 0);
        }
    }

    private static void termsGreaterNumbersFirst(Due due) {
        due.sentence(TERMS, "those with greater numbers first");
        for (int[] row : BESIDE) {
            LightChecks x = grown();
            x.prove(row[0], row[1]);
            inOrder(due, x, row);
            x.prove(row[1], row[0]);
            inOrder(due, x, row);
        }
    }

    private static void inOrder(Due due, LightChecks x, int[] row) {
        for (int i = 2; i < row.length; i++) {
            due.is("leaves " + x.proof(0) + ", " + x.proof(1) + ", node " + (i - 2), x.proof(2 + i), x.tree(row[i]));
        }
    }

    private static void termsFourAtMost(Due due) {
        due.sentence(TERMS, "(4 at most; the others that it needs come of these).");
        LightChecks x = grown();
        due.is("the farthest leaves", x.prove(0, 7), 4);
        due.is("the middle ones, of two halves", x.prove(3, 4), 4);
        due.is("of two fourths", x.prove(5, 6), 3);
        due.is("beside one another", x.prove(6, 7), 2);
        due.is("it has no third one then", x.proof(6), 0);
        due.is("nor a fourth one", x.proof(7), 0);
        x.prove(0, 7);
        int before = rooted(x, x.tree(1));
        due.is("the others come of these", x.fraud(before, before, 1000), 0);
        x.alter(7, x.proof(7) + 1);
        due.is("and of the last one too", x.fraud(before, before, 1000), NONE);
    }

    private static void termsFraudTopIsTheRootBefore(Due due) {
        due.sentence(TERMS, "A FRAUD of a HEAD behind another one: with the LEAVES and NODES of the PROOF TOP is the ROOT of the one before,");
        LightChecks x = grown();
        int before = rooted(x, x.tree(1)), beside = rooted(x, x.tree(1) + 1);
        x.prove(2, 6);
        due.is("it is the root", x.fraud(before, beside, 5), 1);
        due.is("1 beside the root", x.fraud(beside, before, 5), NONE);
        for (int k = 2; k < 8; k++) {
            long was = x.proof(k);
            x.alter(k, was + 1);
            due.is("number " + k + " of the proof altered", x.fraud(before, beside, 5), NONE);
            x.alter(k, was);
            due.is("number " + k + " of the proof as it was", x.fraud(before, beside, 5), 1);
        }
        x.leaf(0, 1);
        due.is("by the proof's numbers, not by what the tree has by now", x.fraud(before, beside, 5), 1);
    }

    private static void termsFraudNotTheRootBehind(Due due) {
        due.sentence(TERMS, "and with the LEAVES behind the STEP it is not the ROOT of the HEAD.");
        LightChecks x = grown();
        int before = rooted(x, x.tree(1));
        x.prove(3, 4);
        int right = behind(x, 103 - 5, 104 + 5), beside = rooted(x, x.tree(1) + 1), turned = behind(x, 103 + 5, 104 - 5);
        due.is("it is", x.fraud(before, right, 5), 0);
        due.is("1 beside it", x.fraud(before, beside, 5), 1);
        due.is("moved the other way", x.fraud(before, turned, 5), 1);
        due.is("nothing moved", x.fraud(before, before, 5), 1);
        due.is("another amount", x.fraud(before, right, 4), 1);
    }

    private static void promise17WhatItWas(Due due) {
        due.sentence("Promise 17", "LEAF k of THE TREE becomes v: what it was; 0: no such LEAF.");
        LightChecks x = grown();
        due.is("leaf 0", x.leaf(0, 5), 100);
        due.is("leaf 0 is 5 by now", x.leaf(0, 5), 5);
        due.is("leaf 7", x.leaf(7, -5), 107);
        due.is("leaf 7 is -5 by now", x.leaf(7, 6), -5);
        long top = x.tree(1);
        for (int wrong : new int[] {-1, 8, 15, LEAST, MOST}) {
            due.is("leaf " + wrong, x.leaf(wrong, 9), 0);
        }
        due.is("nothing became of those", x.tree(1), top);
    }

    private static void promise18Nodes1To15(Due due) {
        due.sentence("Promise 18", "NODE k of THE TREE, 1 .. 15; 0: there is none such.");
        LightChecks x = new LightChecks();
        x.leaf(7, 1);
        due.is("node 15", x.tree(15), 6238072747940578789L);
        x.leaf(7, 0);
        x.leaf(1, 1);
        due.is("node 1", x.tree(1), -4973331218443354704L);
        for (int wrong : new int[] {-1, 0, 16, 17, LEAST, MOST}) {
            due.is("node " + wrong, x.tree(wrong), 0);
        }
    }

    private static void promise19HowManyNodes(Due due) {
        due.sentence("Promise 19", "THE PROOF is that of LEAVES a and b of THE TREE: how many NODES it has.");
        LightChecks x = grown();
        due.is("the first proof is of the empty tree", x.proof(2), 0);
        due.is("two", x.prove(0, 1), 2);
        due.is("of the tree as it is", x.proof(2), 100);
        due.is("three", x.prove(1, 2), 3);
        due.is("four", x.prove(7, 0), 4);
        x.alter(2, 9);
        x.alter(4, 9);
        x.leaf(7, 8);
        due.is("four again", x.prove(7, 0), 4);
        due.is("what was altered is gone", x.proof(2), 8);
        due.is("and a node that was altered", x.proof(4), x.tree(14));
    }

    private static void promise19Bad(Due due) {
        due.sentence("Promise 19", "BAD: also a like b.");
        LightChecks x = grown();
        x.prove(3, 6);
        x.alter(7, 12);
        for (int k = 0; k < 8; k++) {
            due.is("both " + k, x.prove(k, k), BAD);
        }
        for (int wrong : new int[] {-1, 8, LEAST, MOST}) {
            due.is("a " + wrong, x.prove(wrong, 0), BAD);
            due.is("b " + wrong, x.prove(0, wrong), BAD);
            due.is("both " + wrong, x.prove(wrong, wrong), BAD);
        }
        long[] proof = {3, 6, 103, 106};
        for (int k = 0; k < proof.length; k++) {
            due.is("the proof as it was, " + k, x.proof(k), proof[k]);
        }
        due.is("the altered node as it was", x.proof(7), 12);
    }

    private static void promise20Numbers(Due due) {
        due.sentence("Promise 20", "Of THE PROOF: k = 0, 1 the number of LEAF a, b, 2, 3 these as they are in it, 4 .. 7 its NODES in order;");
        LightChecks x = grown();
        x.prove(7, 0);
        long[] proof = {7, 0, 107, 100, x.tree(14), x.tree(9), x.tree(6), x.tree(5)};
        for (int k = 0; k < 8; k++) {
            x.leaf(k, -1);
        }
        for (int k = 0; k < proof.length; k++) {
            due.is("as they are in it, not in the tree, " + k, x.proof(k), proof[k]);
        }
        x.alter(3, Long.MIN_VALUE);
        due.is("as it is altered", x.proof(3), Long.MIN_VALUE);
    }

    private static void promise20Others(Due due) {
        due.sentence("Promise 20", "0 for others, and where it has none.");
        LightChecks x = grown();
        x.prove(0, 7);
        for (int wrong : new int[] {-1, -2, -4, 8, 9, LEAST, LEAST + 3, LEAST + 4, MOST}) {
            due.is("k " + wrong, x.proof(wrong), 0);
        }
        x.prove(0, 2);
        due.is("three nodes, the fourth", x.proof(7), 0);
        x.prove(0, 7);
        x.prove(2, 3);
        due.is("two nodes, the third", x.proof(6), 0);
        due.is("two nodes, the fourth", x.proof(7), 0);
    }

    private static void promise21Altered(Due due) {
        due.sentence("Promise 21", "A number of THE PROOF is altered (k as there, 2 .. 7): 1.");
        LightChecks x = grown();
        x.prove(0, 7);
        long top = x.tree(1);
        for (int k = 2; k < 8; k++) {
            due.is("alter " + k, x.alter(k, Long.MIN_VALUE + k), 1);
            due.is("altered " + k, x.proof(k), Long.MIN_VALUE + k);
        }
        for (int k = 2; k < 8; k++) {
            due.is("each is its own, " + k, x.proof(k), Long.MIN_VALUE + k);
        }
        due.is("to what it is", x.alter(2, Long.MIN_VALUE + 2), 1);
        due.is("the tree is as it was", x.tree(1), top);
        due.is("leaf 0 is as it was", x.leaf(0, 1), 100);
    }

    private static void promise21Bad(Due due) {
        due.sentence("Promise 21", "BAD: also where it has none.");
        LightChecks x = grown();
        x.prove(0, 7);
        long[] proof = {0, 7, 100, 107, x.tree(14), x.tree(9), x.tree(6), x.tree(5)};
        for (int wrong : new int[] {-1, 0, 1, 8, 9, LEAST, LEAST + 3, LEAST + 4, MOST}) {
            due.is("k " + wrong, x.alter(wrong, 55), BAD);
        }
        for (int k = 0; k < proof.length; k++) {
            due.is("as it was, " + k, x.proof(k), proof[k]);
        }
        x.prove(0, 2);
        due.is("three nodes, the third", x.alter(6, 55), 1);
        due.is("three nodes, the fourth", x.alter(7, 55), BAD);
        due.is("it has none yet", x.proof(7), 0);
        x.prove(2, 3);
        due.is("two nodes, the second", x.alter(5, 55), 1);
        due.is("two nodes, the third", x.alter(6, 55), BAD);
        due.is("two nodes, the fourth", x.alter(7, 55), BAD);
        due.is("it has no third one yet", x.proof(6), 0);
    }

    private static void promise22ShowsAFraud(Due due) {
        due.sentence("Promise 22", "With THE PROOF: a HEAD behind another one, by a STEP of an AMOUNT from its LEAF a to its LEAF b: "
            + "1 it shows a FRAUD;");
        LightChecks x = grown();
        int before = rooted(x, x.tree(1)), wrong = rooted(x, x.tree(1) - 1);
        for (int[] row : BESIDE) {
            x.prove(row[0], row[1]);
            due.is("from " + row[0] + " to " + row[1], x.fraud(before, wrong, 1), 1);
            due.is("from " + row[0] + " to " + row[1] + ", nothing moved", x.fraud(before, before, 1), 1);
        }
    }

    private static void promise22AsItShouldBe(Due due) {
        due.sentence("Promise 22", "0 the HEAD's ROOT is as it should be;");
        for (int[] row : BESIDE) {
            stepIsRight(due, row[0], row[1]);
            stepIsRight(due, row[1], row[0]);
        }
        LightChecks x = grown();
        x.prove(3, 4);
        int before = rooted(x, x.tree(1));
        due.is("one head for both, when nothing moves", x.fraud(before, before, 104), 0);
        int high = x.head(100000, 1, 0, 0, x.tree(1)), low = x.head(0, 2, 0, 0, x.tree(1));
        due.is("just their roots are looked at", x.fraud(high, low, 104), 0);
    }

    private static void stepIsRight(Due due, int a, int b) {
        LightChecks x = grown();
        int before = rooted(x, x.tree(1));
        x.prove(a, b);
        x.leaf(a, 0);
        x.leaf(b, 200 + a + b);
        due.is("all of leaf " + a + " to leaf " + b, x.fraud(before, rooted(x, x.tree(1)), 100 + a), 0);
    }

    private static void promise22None(Due due) {
        due.sentence("Promise 22", "NONE: TOP is not the ROOT of the one before.");
        LightChecks x = grown();
        x.prove(3, 4);
        int right = rooted(x, x.tree(1)), wrong = rooted(x, 0);
        due.is("another root", x.fraud(wrong, right, 5), NONE);
        due.is("also where nothing moves", x.fraud(wrong, wrong, 1000), NONE);
        x.alter(2, 1000);
        due.is("leaf a altered", x.fraud(right, right, 5), NONE);
        x.prove(3, 4);
        due.is("proved anew", x.fraud(right, wrong, 5), 1);
        x.leaf(0, 1);
        x.prove(3, 4);
        due.is("the tree has another top by now", x.fraud(right, wrong, 5), NONE);
    }

    private static void promise22Bad(Due due) {
        due.sentence("Promise 22", "BAD: also AMOUNT.");
        LightChecks x = grown();
        x.prove(3, 4);
        int right = rooted(x, x.tree(1));
        for (int wrong : new int[] {-1, 1, 59, 60, LEAST, MOST}) {
            due.is("before " + wrong, x.fraud(wrong, right, 1), BAD);
            due.is("head " + wrong, x.fraud(right, wrong, 1), BAD);
        }
        for (long wrong : new long[] {0, -1, Long.MIN_VALUE}) {
            due.is("amount " + wrong, x.fraud(right, right, wrong), BAD);
        }
        int other = rooted(x, 5);
        due.is("amount 0, ahead of NONE", x.fraud(other, right, 0), BAD);
        due.is("no such head, ahead of NONE", x.fraud(other, 2, 1), BAD);
        due.is("amount 1", x.fraud(right, other, 1), 1);
        due.is("the greatest amount", x.fraud(right, other, Long.MAX_VALUE), 1);
    }
}
