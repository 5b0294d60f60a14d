/** The edges of 'Terms' on clients and givers: what is tried, stored and sought, and where two givers are unlike. */
final class TryAndSeekEdges extends Worlds {
    private static final String TERMS = "Terms";

    static void all(Due due) {
        termsClients0To3(due);
        termsRisingHeights(due);
        termsBegun(due);
        termsTheFirstThatIsSo(due);
        termsNotAboveTrusted(due);
        termsParentOfAStep(due);
        termsSetOfAStep(due);
        termsStepNotCertified(due);
        termsSpanOfASkip(due);
        termsSkipNotCertifiedOrNoOverlap(due);
        termsElseStored(due);
        termsMoreThanRows(due);
        termsGivers0To3(due);
        termsOneHeadAtEachHeight(due);
        termsAsLongAsOneIsOnThePile(due);
        termsNoneThereIs7(due);
        termsEachTryCosts1(due);
        termsStoredIsTakenOff(due);
        termsTheMiddleIsCut(due);
        termsWithAnotherOneItIsOver(due);
        termsUnlikeGivers(due);
    }

    private static void termsClients0To3(Due due) {
        due.sentence(TERMS, "CLIENTS 0 .. 3");
        LightChecks x = world();
        int head = skip(x, 0), higher = skip(x, 9);
        for (int wrong : new int[] {-1, 4, LEAST, MOST}) {
            due.is("start, client " + wrong, x.start(wrong, head), BAD);
            due.is("follow, client " + wrong, x.follow(wrong, head), BAD);
            due.is("seek, client " + wrong, x.seek(wrong, 0, 0), BAD);
            due.is("stored, client " + wrong, x.stored(wrong, -1), BAD);
            due.is("client " + wrong, x.client(wrong, 0), BAD);
            due.is("blame, client " + wrong, x.blame(wrong, 0, 1), BAD);
        }
        for (int client = 0; client < 4; client++) {
            keeps(due, "the ones before have not begun this one", x, client);
            due.is("start " + client, x.start(client, head), 1);
            due.is("follow " + client, x.follow(client, higher), 1);
            keeps(due, "client " + client, x, client, head, higher);
        }
    }

    private static void termsRisingHeights(Due due) {
        due.sentence(TERMS, "store HEADS, by rising HEIGHTS; TRUSTED is the last one.");
        LightChecks x = world();
        int low = skip(x, 10), between = skip(x, 15), high = skip(x, 20);
        x.start(0, low);
        x.follow(0, high);
        due.is("between is too late", x.follow(0, between), -11);
        keeps(due, "rising", x, 0, low, high);
        due.is("a step behind the first one", x.follow(0, step(x, 11, low)), -11);
        due.is("one above the last, behind the first", x.follow(0, step(x, 21, low)), -12);
        int step = step(x, 21, high);
        due.is("a step behind the last one", x.follow(0, step), 1);
        keeps(due, "rising, the step too", x, 0, low, high, step);
    }

    private static void termsBegun(Due due) {
        due.sentence(TERMS, "Begun, a CLIENT stores one HEAD, that is given from outside.");
        LightChecks x = world();
        int unsigned = x.head(100000, 0, 0, 0, 0), lowest = x.head(0, 0, 0, 0, 0), high = skip(x, 40);
        due.is("nobody signed it, at the top", x.start(0, unsigned), 1);
        keeps(due, "that one", x, 0, unsigned);
        due.is("lower than what is trusted, nothing is tried", x.start(0, lowest), 1);
        keeps(due, "the lowest", x, 0, lowest);
        due.is("it goes on from there", x.follow(0, high), 1);
        due.is("the same one again", x.start(0, high), 1);
        keeps(due, "that one alone", x, 0, high);
    }

    private static void termsTheFirstThatIsSo(Due due) {
        due.sentence(TERMS, "TO TRY a HEAD, the first of these that is so:");
        LightChecks x = world();
        int trusted = made(x, 100, 0, 0, 1, 0, 1, 2);
        x.start(0, trusted);
        due.is("1 ahead of what else is wrong", x.follow(0, made(x, 100, 5, 0, 0)), -11);
        due.is("2 ahead of 3 and 4", x.follow(0, made(x, 101, 5, 0, 0)), -12);
        due.is("3 ahead of 4", x.follow(0, made(x, 101, x.digest(trusted), 0, 0)), -13);
        due.is("4 of a step", x.follow(0, made(x, 101, x.digest(trusted), 1, 0)), -14);
        due.is("5 ahead of 4 and 6", x.follow(0, made(x, 151, 5, 0, 0)), -15);
        due.is("5 ahead of 6", x.follow(0, made(x, 151, 5, 0, 0, 0, 1, 2)), -15);
        due.is("4 ahead of 6", x.follow(0, made(x, 150, 5, 0, 0)), -14);
        due.is("6 alone", x.follow(0, made(x, 150, 5, 0, 0, 0, 1, 2)), -16);
        keeps(due, "nothing was stored", x, 0, trusted);
    }

    private static void termsNotAboveTrusted(Due due) {
        due.sentence(TERMS, "1 its HEIGHT is not above that of TRUSTED;");
        LightChecks x = world();
        int low = skip(x, 0), level = skip(x, 0), one = step(x, 1, low), top = skip(x, 100000), nearTop = skip(x, 99999);
        x.start(0, low);
        due.is("itself", x.follow(0, low), -11);
        due.is("another one as high, at 0", x.follow(0, level), -11);
        due.is("1 above", x.follow(0, one), 1);
        due.is("1 below", x.follow(0, low), -11);
        x.start(0, top);
        due.is("1 below the greatest height", x.follow(0, nearTop), -11);
        due.is("as high as the greatest height", x.follow(0, top), -11);
        due.is("far below", x.follow(0, low), -11);
    }

    private static void termsParentOfAStep(Due due) {
        due.sentence(TERMS, "with a HEIGHT of just 1 more: 2 its PARENT is not the DIGEST of TRUSTED;");
        LightChecks x = world();
        int low = skip(x, 10), other = made(x, 10, 7, 0, 0, 0, 1, 2);
        x.start(0, low);
        due.is("parent 0", x.follow(0, skip(x, 11)), -12);
        due.is("1 beside the digest", x.follow(0, made(x, 11, x.digest(low) + 1, 0, 0, 0, 1, 2)), -12);
        due.is("the digest of another one there", x.follow(0, step(x, 11, other)), -12);
        int like = skip(x, 10);
        due.is("the digest of one that is like it", x.follow(0, step(x, 11, like)), 1);
        x.start(0, low);
        due.is("with 2 more the parent is not looked at", x.follow(0, skip(x, 12)), 1);
    }

    private static void termsSetOfAStep(Due due) {
        due.sentence(TERMS, "3 its SET is not NEXT of TRUSTED;");
        LightChecks x = world();
        int likeSet1 = x.set(weights(0, 0, 0, 10, 10), 10);
        int low = made(x, 10, 0, 0, 1, 0, 1, 2);
        long parent = x.digest(low);
        x.start(0, low);
        due.is("its set, not its next", x.follow(0, made(x, 11, parent, 0, 1, 0, 1, 2)), -13);
        due.is("a set of like weights with another number", x.follow(0, made(x, 11, parent, likeSet1, 1, 3, 4, 5)), -13);
        due.is("next", x.follow(0, made(x, 11, parent, 1, 0, 3, 4, 5)), 1);
        x.start(0, low);
        due.is("with 2 more the set is not looked at", x.follow(0, made(x, 12, 0, likeSet1, 1, 3, 4, 5)), 1);
    }

    private static void termsStepNotCertified(Due due) {
        due.sentence(TERMS, "4 it is not CERTIFIED;");
        LightChecks x = world();
        int low = skip(x, 10), step = made(x, 11, x.digest(low), 0, 0, 0, 1);
        x.start(0, low);
        due.is("just two thirds", x.follow(0, step), -14);
        x.sign(step, 9);
        due.is("and one without weight", x.follow(0, step), -14);
        x.sign(step, 2);
        x.term(0, 10);
        x.term(1, 1);
        x.term(2, 1);
        due.is("all; a step needs no overlap and has no span", x.follow(0, step), 1);
    }

    private static void termsSpanOfASkip(Due due) {
        due.sentence(TERMS, "with a greater one: 5 its HEIGHT is more than SPAN above that of TRUSTED;");
        LightChecks x = world();
        int[] spans = {50, 1, 2, 1000};
        for (int span : spans) {
            x.term(2, span);
            x.start(0, skip(x, 7));
            due.is("1 more than the span of " + span, x.follow(0, skip(x, 7 + span + 1)), -15);
            due.is("just the span of " + span, x.follow(0, span == 1 ? step(x, 8, 0) : skip(x, 7 + span)), 1);
        }
        x.start(0, skip(x, 0));
        due.is("as far as can be", x.follow(0, skip(x, 100000)), -15);
    }

    private static void termsSkipNotCertifiedOrNoOverlap(Due due) {
        due.sentence(TERMS, "4 it is not CERTIFIED; 6 it does not OVERLAP with NEXT of TRUSTED.");
        LightChecks x = world();
        x.start(0, made(x, 10, 0, 1, 0, 3, 4, 5));
        due.is("just two thirds", x.follow(0, made(x, 12, 0, 0, 0, 0, 1)), -14);
        due.is("all of set 2, just a third of next", x.follow(0, made(x, 12, 0, 2, 0, 2, 3, 4)), -16);
        due.is("all of the set of the trusted one, nobody of its next", x.follow(0, made(x, 12, 0, 1, 0, 3, 4, 5)), -16);
        int both = made(x, 12, 0, 2, 0, 2, 3, 4, 1);
        x.term(0, 2);
        due.is("two thirds of next, by 2 of 3", x.follow(0, both), -16);
        x.term(0, 1);
        due.is("two thirds of next, by 1 of 3", x.follow(0, both), 1);
    }

    private static void termsElseStored(Due due) {
        due.sentence(TERMS, "Else it is stored;");
        LightChecks x = world();
        int low = skip(x, 0), one = step(x, 1, low), two = step(x, 2, one), top = skip(x, 52);
        x.start(0, low);
        due.is("a step", x.follow(0, one), 1);
        due.is("the step behind it", x.follow(0, two), 1);
        due.is("a skip of the whole span", x.follow(0, top), 1);
        keeps(due, "all of them", x, 0, low, one, two, top);
    }

    private static void termsMoreThanRows(Due due) {
        due.sentence(TERMS, "when there are more than ROWS then, all go that are neither the first one nor one of the last ROWS less 1.");
        LightChecks x = world();
        for (int i = 0; i < 15; i++) {
            skip(x, 2 * i);
        }
        followAll(x, 0, 0, 3);
        keeps(due, "just 4", x, 0, 0, 1, 2, 3);
        x.follow(0, 4);
        keeps(due, "one more than 4", x, 0, 0, 2, 3, 4);
        x.term(3, 2);
        followAll(x, 1, 0, 1);
        keeps(due, "just 2", x, 1, 0, 1);
        x.follow(1, 2);
        keeps(due, "one more than 2", x, 1, 0, 2);
        x.term(3, 10);
        followAll(x, 2, 0, 9);
        keeps(due, "just 10", x, 2, 0, 1, 2, 3, 4, 5, 6, 7, 8, 9);
        x.follow(2, 10);
        keeps(due, "one more than 10", x, 2, 0, 2, 3, 4, 5, 6, 7, 8, 9, 10);
        x.term(3, 2);
        keeps(due, "fewer rows alone let nothing go", x, 2, 0, 2, 3, 4, 5, 6, 7, 8, 9, 10);
        x.follow(2, 11);
        keeps(due, "nine go at once", x, 2, 0, 11);
        x.term(3, 3);
        x.follow(2, 12);
        x.follow(2, 13);
        keeps(due, "rows of 3", x, 2, 0, 12, 13);
    }

    private static void followAll(LightChecks x, int client, int first, int last) {
        x.start(client, first);
        for (int head = first + 1; head <= last; head++) {
            x.follow(client, head);
        }
    }

    private static void termsGivers0To3(Due due) {
        due.sentence(TERMS, "GIVERS 0 .. 3");
        LightChecks x = world();
        int head = skip(x, 9);
        x.start(0, skip(x, 0));
        for (int wrong : new int[] {-1, 4, LEAST, MOST}) {
            due.is("give, giver " + wrong, x.give(wrong, head), BAD);
            due.is("seek, giver " + wrong, x.seek(0, wrong, 9), BAD);
            due.is("compare, a " + wrong, x.compare(wrong, 0), BAD);
            due.is("compare, b " + wrong, x.compare(0, wrong), BAD);
            due.is("blame, a " + wrong, x.blame(0, wrong, 0), BAD);
            due.is("blame, b " + wrong, x.blame(0, 0, wrong), BAD);
        }
        for (int giver = 0; giver < 4; giver++) {
            due.is("the ones before have not given to " + giver, x.seek(0, giver, 9), -17);
            due.is("give " + giver, x.give(giver, head), NONE);
            due.is("it has that one", x.give(giver, head), head);
        }
        due.is("sought with the last giver", x.seek(0, 3, 9), 1);
    }

    private static void termsOneHeadAtEachHeight(Due due) {
        due.sentence(TERMS, "have at each HEIGHT one HEAD, or none (at first).");
        LightChecks x = world();
        int a = skip(x, 0), b = skip(x, 0), top = skip(x, 100000), other = skip(x, 100000), near = skip(x, 99999);
        due.is("none at 0", x.give(0, a), NONE);
        due.is("none at 100000", x.give(0, top), NONE);
        due.is("none at 99999", x.give(0, near), NONE);
        due.is("one at 0", x.give(0, b), a);
        due.is("the later one is there alone", x.give(0, b), b);
        due.is("one at 100000", x.give(0, other), top);
        due.is("that at 99999 is as it was", x.give(0, near), near);
        LightChecks all = world();
        for (int i = 0; i < 60; i++) {
            all.head(i, 0, 0, 0, 0);
            due.is("none at " + i, all.give(2, i), NONE);
        }
        for (int i = 0; i < 60; i++) {
            due.is("each of 60 heights has its own, " + i, all.give(2, i), i);
        }
    }

    private static void termsAsLongAsOneIsOnThePile(Due due) {
        due.sentence(TERMS, "TO SEEK a HEIGHT with a GIVER: there is a pile of HEIGHTS, that one on it. As long as one is on it:");
        LightChecks x = new LightChecks();
        x.set(1, 0);
        for (int i = 0; i < 60; i++) {
            x.head(i, i == 0 ? 0 : x.digest(i - 1), 0, 0, 0);
            x.sign(i, 0);
            x.give(0, i);
        }
        x.term(2, 1);
        x.start(0, 0);
        due.is("over each height of 59", x.seek(0, 0, 59), 1);
        keeps(due, "all steps", x, 0, 0, 57, 58, 59);
        due.is("59 are stored, and 58 put on the pile", x.client(0, 0), 59 + 58);
        LightChecks deep = new LightChecks();
        deep.set(1, 0);
        deep.start(0, deep.head(0, 0, 0, 0, 0));
        for (int height = 100000; height > 0; height /= 2) {
            deep.give(0, deep.head(height, 0, 0, 0, 0));
        }
        deep.term(2, 1);
        due.is("halved from 100000 down to 1", deep.seek(0, 0, 100000), -12);
        tells(due, "17 heights were on the pile", deep, 0, 17, 2, 1);
        int one = deep.head(1, deep.digest(0), 0, 0, 0);
        deep.sign(one, 0);
        deep.give(0, one);
        due.is("1 is stored, and 2 wanted for 3", deep.seek(0, 0, 100000), -17);
        tells(due, "17 tries down, and then 3 and 2", deep, 0, 17 + 19, 7, 2);
    }

    private static void termsNoneThereIs7(Due due) {
        due.sentence(TERMS, "the GIVER's HEAD at the uppermost HEIGHT (7, if it has none there) is TRIED");
        LightChecks x = world();
        int low = skip(x, 10);
        x.start(0, low);
        x.give(0, skip(x, 20));
        due.is("none at 19", x.seek(0, 0, 19), -17);
        due.is("none at 21", x.seek(0, 0, 21), -17);
        due.is("none at 10, and not above it: there is none to be tried", x.seek(0, 0, 10), -17);
        due.is("none at 0", x.seek(0, 0, 0), -17);
        due.is("none at 100000, however far", x.seek(0, 0, 100000), -17);
        due.is("with a giver that has nothing", x.seek(0, 1, 20), -17);
        keeps(due, "nothing yet", x, 0, low);
        due.is("one at 20", x.seek(0, 0, 20), 1);
    }

    private static void termsEachTryCosts1(Due due) {
        due.sentence(TERMS, "(each time that costs 1, also when there is none).");
        LightChecks x = world();
        x.start(0, skip(x, 0));
        x.start(1, 0);
        due.is("none there", x.seek(0, 0, 40), -17);
        due.is("costs 1", x.client(0, 0), 1);
        x.give(0, skip(x, 40));
        due.is("stored at once", x.seek(0, 0, 40), 1);
        due.is("costs 1 more", x.client(0, 0), 2);
        due.is("not above", x.seek(0, 0, 40), -11);
        due.is("costs 1 more, refused", x.client(0, 0), 3);
        x.give(0, skip(x, 100));
        due.is("too far, and none at 70", x.seek(0, 0, 100), -17);
        due.is("costs 2 more", x.client(0, 0), 5);
        x.give(0, skip(x, 70));
        due.is("too far, 70, and 100", x.seek(0, 0, 100), 1);
        due.is("costs 3 more", x.client(0, 0), 8);
        due.is("another client's cost is its own", x.client(1, 0), 0);
    }

    private static void termsStoredIsTakenOff(Due due) {
        due.sentence(TERMS, "Stored: that HEIGHT is taken off.");
        LightChecks x = world();
        int low = skip(x, 0), at50 = skip(x, 50), at100 = skip(x, 100);
        x.start(0, low);
        x.give(0, at100);
        x.give(0, at50);
        due.is("50 is stored and off, then 100", x.seek(0, 0, 100), 1);
        keeps(due, "both, once each", x, 0, low, at50, at100);
        due.is("100 twice, 50 once", x.client(0, 0), 3);
        LightChecks y = world();
        int first = skip(y, 0), third = skip(y, 3), step = step(y, 4, third);
        y.start(0, first);
        y.give(0, third);
        y.give(0, step);
        y.seek(0, 0, 3);
        due.is("a height that is just 1 more by then is a step", y.seek(0, 0, 4), 1);
        keeps(due, "the step too", y, 0, first, third, step);
    }

    private static void termsTheMiddleIsCut(Due due) {
        due.sentence(TERMS, "With 5 or 6: the HEIGHT in the middle of TRUSTED's and that one (both added, by 2, cut) is put on top.");
        int[][] tooFar = {{10, 61, 35}, {10, 62, 36}, {0, 51, 25}, {1, 52, 26}, {0, 100000, 50000}, {99949, 100000, 99974}};
        for (int[] row : tooFar) {
            middleIs(due, "5", row, 0, 1, 2);
        }
        int[][] noOverlap = {{10, 12, 11}, {10, 13, 11}, {11, 13, 12}, {11, 14, 12}, {0, 50, 25}, {99998, 100000, 99999}};
        for (int[] row : noOverlap) {
            middleIs(due, "6", row, 3, 4, 5);
        }
        LightChecks x = world();
        int low = skip(x, 0);
        x.start(0, low);
        x.give(0, skip(x, 60));
        x.give(0, skip(x, 30));
        x.give(0, made(x, 100, 0, 1, 1, 3, 4, 5));
        due.is("100 and 50 are not near enough", x.seek(0, 0, 100), -17);
        due.is("5 puts 50 on top", x.client(0, 2), 50);
        x.give(0, skip(x, 50));
        due.is("with 50 stored, 6 puts 75 on top: its middle with 100", x.seek(0, 0, 100), -17);
        due.is("75", x.client(0, 2), 75);
    }

    /** The giver has just the head that is sought, signed so that it is refused; so it is over at the middle, with 7. */
    private static void middleIs(Due due, String by, int[] row, int... nodes) {
        LightChecks x = world();
        x.start(0, skip(x, row[0]));
        x.give(0, made(x, row[1], 0, nodes[0] == 0 ? 0 : 1, 0, nodes));
        due.is(by + ", from " + row[0] + " to " + row[1], x.seek(0, 0, row[1]), -17);
        tells(due, by + ", from " + row[0] + " to " + row[1], x, 0, 2, 7, row[2]);
    }

    private static void termsWithAnotherOneItIsOver(Due due) {
        due.sentence(TERMS, "With another one it is over.");
        LightChecks x = world();
        int low = made(x, 10, 0, 0, 1, 0, 1, 2);
        x.start(0, low);
        x.give(0, made(x, 10, 9, 0, 0));
        x.give(0, made(x, 30, 0, 0, 0));
        x.give(0, made(x, 11, 9, 0, 0));
        due.is("1", x.seek(0, 0, 10), -11);
        tells(due, "1, at once", x, 0, 1, 1, 10);
        due.is("2", x.seek(0, 0, 11), -12);
        tells(due, "2, at once", x, 0, 2, 2, 11);
        due.is("4 of a skip", x.seek(0, 0, 30), -14);
        tells(due, "4, at once, and no middle", x, 0, 3, 4, 30);
        x.give(0, made(x, 11, x.digest(low), 0, 0));
        due.is("3", x.seek(0, 0, 11), -13);
        tells(due, "3, at once", x, 0, 4, 3, 11);
        x.give(0, made(x, 12, 0, 0, 0, 0, 1, 2));
        due.is("6 of 12, 3 of 11 above it", x.seek(0, 0, 12), -13);
        tells(due, "over, though 12 is on the pile yet", x, 0, 6, 3, 11);
        x.give(0, made(x, 11, x.digest(low), 1, 0));
        due.is("6 of 12, 4 of 11 above it", x.seek(0, 0, 12), -14);
        tells(due, "over with 4", x, 0, 8, 4, 11);
        keeps(due, "nothing was stored", x, 0, low);
    }

    private static void termsUnlikeGivers(Due due) {
        due.sentence(TERMS, "TWO GIVERS are UNLIKE at a HEIGHT, if both have a HEAD there, of unlike DIGESTS.");
        LightChecks x = world();
        int a = x.head(7, 1, 0, 0, 1), like = x.head(7, 1, 0, 0, 1), otherRoot = x.head(7, 1, 0, 0, 2), else8 = x.head(8, 1, 0, 0, 2);
        due.is("neither has one", x.compare(0, 1), NONE);
        x.give(0, a);
        due.is("the first alone", x.compare(0, 1), NONE);
        due.is("the second alone", x.compare(1, 0), NONE);
        x.give(1, else8);
        due.is("at different heights", x.compare(0, 1), NONE);
        x.give(1, like);
        due.is("another head of the same digest", x.compare(0, 1), NONE);
        x.sign(like, 0);
        due.is("signed by others", x.compare(0, 1), NONE);
        x.give(1, otherRoot);
        due.is("unlike by the root alone", x.compare(0, 1), 7);
        due.is("unlike, turned", x.compare(1, 0), 7);
        x.give(0, otherRoot);
        due.is("the same head", x.compare(0, 1), NONE);
    }
}
