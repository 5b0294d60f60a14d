/** Each sentence of 'What it is', and each part of its first one. */
final class WhatItIsEdges extends Worlds {
    private static final String SECTION = "What it is";
    private static final String MOST_CALLS = "An object is used for at most 512 calls after it has been made;";

    static void all(Due due) {
        clientsKeepAFewHeads(due);
        theyFollowStepByStep(due);
        orSkipAsFarAsTheWeightOverlaps(due);
        halvingTheWayWhereItDoesNot(due);
        giversAreCompared(due);
        aFalseStepIsShown(due);
        chancesAreExactFractions(due);
        numbersAreLongsThatWrap(due);
        answersHoldForAll512Calls(due);
        answersHoldForAll512Seeks(due);
        laterCallsOnlyAnswer(due);
    }

    /** A chain of heads 0 .. 59 at heights 0 .. 59, each the parent of the next one, signed by all of set 0. */
    private static LightChecks chain() {
        LightChecks x = world();
        skip(x, 0);
        for (int height = 1; height < 60; height++) {
            step(x, height, height - 1);
        }
        return x;
    }

    private static void clientsKeepAFewHeads(Due due) {
        due.sentence(SECTION, "Clients that keep a few heads of a long chain:");
        LightChecks x = chain();
        x.start(0, 0);
        for (int head = 1; head < 60; head++) {
            x.follow(0, head);
        }
        keeps(due, "behind 60 heads", x, 0, 0, 57, 58, 59);
    }

    private static void theyFollowStepByStep(Due due) {
        due.sentence(SECTION, "they follow step by step,");
        LightChecks x = chain();
        x.start(0, 0);
        for (int head = 1; head < 60; head++) {
            due.is("step to " + head, x.follow(0, head), 1);
        }
        due.is("what is no step from there", x.follow(0, 58), -11);
    }

    private static void orSkipAsFarAsTheWeightOverlaps(Due due) {
        due.sentence(SECTION, "or skip as far as the old signers' weight overlaps,");
        LightChecks x = world();
        x.start(0, skip(x, 0));
        due.is("all of the old signers", x.follow(0, made(x, 40, 0, 0, 0, 0, 1, 2)), 1);
        due.is("one of three, which is not above a third", x.follow(0, made(x, 50, 0, 2, 2, 2, 3, 4)), -16);
        due.is("none of them", x.follow(0, made(x, 50, 0, 1, 1, 3, 4, 5)), -16);
        due.is("two of three", x.follow(0, made(x, 50, 0, 2, 2, 1, 2, 3, 4)), 1);
    }

    private static void halvingTheWayWhereItDoesNot(Due due) {
        due.sentence(SECTION, "halving the way where it does not;");
        LightChecks x = world();
        int first = skip(x, 10);
        int middle = made(x, 20, 0, 0, 1, 0, 1, 2);
        int last = made(x, 30, 0, 1, 1, 3, 4, 5);
        x.start(0, first);
        x.start(1, first);
        x.give(0, middle);
        x.give(0, last);
        due.is("the whole way", x.follow(0, last), -16);
        due.is("by halves", x.seek(1, 0, 30), 1);
        keeps(due, "by halves", x, 1, first, middle, last);
        due.is("whole, half and whole again", x.client(1, 0), 3);
    }

    private static void giversAreCompared(Due due) {
        due.sentence(SECTION, "givers that are compared;");
        LightChecks x = world();
        int first = skip(x, 10), alike = skip(x, 10), other = made(x, 10, 1, 0, 0);
        x.give(0, first);
        x.give(1, alike);
        x.give(2, other);
        due.is("alike", x.compare(0, 1), NONE);
        due.is("unlike", x.compare(0, 2), 10);
    }

    private static void aFalseStepIsShown(Due due) {
        due.sentence(SECTION, "a false step shown by a part of a tree;");
        LightChecks x = world();
        for (int k = 0; k < 8; k++) {
            x.leaf(k, 10 * k);
        }
        int before = rooted(x, x.tree(1));
        due.is("a part of the tree", x.prove(5, 2), 4);
        x.leaf(5, 43);
        x.leaf(2, 27);
        int right = rooted(x, x.tree(1));
        x.leaf(2, 28);
        int wrong = rooted(x, x.tree(1));
        due.is("the true step", x.fraud(before, right, 7), 0);
        due.is("a false step", x.fraud(before, wrong, 7), 1);
    }

    private static void chancesAreExactFractions(Due due) {
        due.sentence(SECTION, "chances that what is missing is not met by samples, as exact fractions.");
        LightChecks x = new LightChecks();
        due.is("above", x.chance(60, 1, 30, 0), 1);
        due.is("below", x.chance(60, 1, 30, 1), 2);
        due.is("above, with one choice alone", x.chance(60, 30, 30, 0), 1);
        due.is("below, the most that there are", x.chance(60, 30, 30, 1), 118264581564861424L);
    }

    private static void numbersAreLongsThatWrap(Due due) {
        due.sentence(SECTION, "Numbers are longs that wrap.");
        LightChecks x = new LightChecks();
        x.set(1, 0);
        due.is("the outermost parent and root", x.head(0, Long.MIN_VALUE, 0, 0, Long.MAX_VALUE), 0);
        due.is("and the other way round", x.head(0, Long.MAX_VALUE, 0, 0, Long.MIN_VALUE), 1);
        x.leaf(0, 5);
        x.leaf(7, Long.MAX_VALUE);
        x.prove(0, 7);
        int before = rooted(x, x.tree(1));
        due.is("the greatest long is a leaf", x.leaf(7, Long.MIN_VALUE), Long.MAX_VALUE);
        due.is("the least long is a leaf", x.leaf(7, Long.MIN_VALUE), Long.MIN_VALUE);
        x.leaf(0, 4);
        due.is("1 more than the greatest is the least", x.fraud(before, rooted(x, x.tree(1)), 1), 0);
        x.leaf(0, 0);
        x.leaf(7, Long.MIN_VALUE + 4);
        due.is("5 more than the greatest", x.fraud(before, rooted(x, x.tree(1)), 5), 0);
    }

    private static void answersHoldForAll512Calls(Due due) {
        due.sentence(SECTION, MOST_CALLS);
        LightChecks x = new LightChecks();
        for (int call = 1; call <= 512; call++) {
            due.is("call " + call, x.leaf(0, call), call - 1);
        }
    }

    private static void answersHoldForAll512Seeks(Due due) {
        due.sentence(SECTION, MOST_CALLS);
        LightChecks x = new LightChecks();
        x.set(1, 0);
        x.head(0, 0, 0, 0, 0);
        x.head(100000, 0, 0, 0, 0);
        x.start(0, 0);
        x.give(0, 1);
        for (int call = 6; call <= 511; call++) {
            due.is("call " + call, x.seek(0, 0, 100000), -17);
        }
        due.is("call 512: the cost of 506 seeks, each of two tries", x.client(0, 0), 1012);
    }

    /** What later calls answer is free; LANGUAGE.md's rule 7 still asks that they answer at all. */
    private static void laterCallsOnlyAnswer(Due due) {
        due.sentence(SECTION, "what later calls answer is free.");
        LightChecks x = chain();
        x.start(0, 0);
        int answered = 0;
        for (int call = 0; call < 2000; call++) {
            x.set(1, 1);
            x.head(call, call, 0, 0, call);
            x.give(call % 4, call % 60);
            x.seek(0, call % 4, call);
            x.follow(0, call % 60);
            x.prove(call % 8, (call + 1) % 8);
            x.chance(call % 61, call % 7, call % 5, call % 2);
            answered++;
        }
        due.is("all of them answered", answered, 2000);
    }
}
