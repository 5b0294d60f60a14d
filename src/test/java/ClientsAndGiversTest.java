/** Promises 1 and 9 to 16: clients that follow and seek, givers that are compared and blamed. */
public final class ClientsAndGiversTest extends Worlds {
    private static final int[] NO_SUCH = {-1, 4, Integer.MIN_VALUE, Integer.MAX_VALUE};

    public static void main(String[] args) {
        Due due = new Due("ClientsAndGiversTest");
        nothingAtFirst(due);
        clientsBegin(due);
        stepsAreRefusedInOrder(due);
        skipsAreRefusedInOrder(due);
        theSpanHasAnEdge(due);
        wrongFollowsChangeNothing(due);
        rowsGo(due);
        rowsChangeBetween(due);
        giversReplace(due);
        seekHalvesTheWay(due);
        seekSkipsByOverlap(due);
        seekIsOverWithEach(due);
        seekKeepsWhatWasStored(due);
        wrongSeeksChangeNothing(due);
        giversAreCompared(due);
        giversAreBlamed(due);
        blameLooksBelow(due);
        due.end();
    }

    private static void nothingAtFirst(Due due) {
        LightChecks x = world();
        int h = skip(x, 5);
        for (int client = 0; client < 4; client++) {
            keeps(due, "new", x, client);
            tells(due, "new", x, client, 0, NONE, NONE);
            due.is("follow, not begun", x.follow(client, h), NONE);
            due.is("seek, not begun", x.seek(client, 0, 5), NONE);
            tells(due, "still new", x, client, 0, NONE, NONE);
        }
        due.is("BAD comes ahead of NONE, follow", x.follow(0, 1), BAD);
        due.is("BAD comes ahead of NONE, seek", x.seek(0, 4, 5), BAD);
        due.is("BAD comes ahead of NONE, height", x.seek(0, 0, 100001), BAD);
        due.is("compare, nothing given", x.compare(0, 1), NONE);
    }

    private static void clientsBegin(Due due) {
        LightChecks x = world();
        int unsigned = x.head(9, 0, 0, 0, 0), low = skip(x, 5), high = skip(x, 20);
        due.is("start", x.start(0, low), 1);
        keeps(due, "begun", x, 0, low);
        keeps(due, "another one", x, 1);
        x.follow(0, high);
        x.seek(0, 0, 30);
        tells(due, "before it begins again", x, 0, 1, 7, 30);
        due.is("start again, unsigned", x.start(0, unsigned), 1);
        keeps(due, "begun again", x, 0, unsigned);
        tells(due, "begun again", x, 0, 0, NONE, NONE);
        for (int wrong : NO_SUCH) {
            due.is("start, client " + wrong, x.start(wrong, low), BAD);
            due.is("start, head " + wrong, x.start(0, wrong == 4 ? 3 : wrong), BAD);
            due.is("stored, client " + wrong, x.stored(wrong, 0), BAD);
            due.is("client " + wrong, x.client(wrong, 0), BAD);
        }
        due.is("stored -2", x.stored(0, -2), BAD);
        due.is("stored far below", x.stored(0, Integer.MIN_VALUE), BAD);
        due.is("stored far above", x.stored(0, Integer.MAX_VALUE), NONE);
        due.is("client 0, -1", x.client(0, -1), BAD);
        due.is("client 0, 3", x.client(0, 3), BAD);
        keeps(due, "what is wrong changes nothing", x, 0, unsigned);
    }

    private static void stepsAreRefusedInOrder(Due due) {
        LightChecks x = world();
        int first = x.head(100, 0, 0, 1, 0);
        x.start(0, first);
        long right = x.digest(first);
        int lower = made(x, 99, right, 1, 1, 3, 4, 5), level = made(x, 100, right, 1, 1, 3, 4, 5);
        int allWrong = made(x, 101, right + 1, 0, 1), otherSet = made(x, 101, right, 0, 1);
        int unsigned = made(x, 101, right, 1, 0, 0, 1, 2, 3, 4), fits = made(x, 101, right, 1, 0, 3, 4, 5);
        int wrongParent = made(x, 101, 0, 1, 1, 3, 4, 5);
        due.is("lower", x.follow(0, lower), -11);
        tells(due, "lower", x, 0, 0, 1, 99);
        due.is("level", x.follow(0, level), -11);
        due.is("itself", x.follow(0, first), -11);
        tells(due, "level", x, 0, 0, 1, 100);
        due.is("another parent", x.follow(0, wrongParent), -12);
        due.is("another parent is ahead of all", x.follow(0, allWrong), -12);
        tells(due, "another parent", x, 0, 0, 2, 101);
        due.is("another set is ahead of certified", x.follow(0, otherSet), -13);
        tells(due, "another set", x, 0, 0, 3, 101);
        due.is("not certified by its own set", x.follow(0, unsigned), -14);
        tells(due, "not certified", x, 0, 0, 4, 101);
        keeps(due, "all refused", x, 0, first);
        x.term(0, 10);
        x.term(1, 1);
        x.term(2, 1);
        due.is("a step needs no overlap", x.follow(0, fits), 1);
        keeps(due, "a step", x, 0, first, fits);
        tells(due, "what was refused before is told yet", x, 0, 0, 4, 101);
        due.is("the next step is by its next set", x.follow(0, made(x, 102, x.digest(fits), 1, 1, 3, 4, 5)), -13);
        due.is("and goes on", x.follow(0, made(x, 102, x.digest(fits), 0, 1, 0, 1, 2)), 1);
    }

    private static void skipsAreRefusedInOrder(Due due) {
        LightChecks x = world();
        int first = x.head(100, 0, 1, 0, 0);
        x.start(0, first);
        due.is("too far is ahead of certified", x.follow(0, made(x, 151, 0, 1, 1)), -15);
        tells(due, "too far", x, 0, 0, 5, 151);
        due.is("certified is ahead of overlap", x.follow(0, made(x, 150, 0, 1, 1)), -14);
        tells(due, "not certified", x, 0, 0, 4, 150);
        due.is("no overlap with next", x.follow(0, made(x, 102, 0, 1, 1, 3, 4, 5)), -16);
        tells(due, "no overlap", x, 0, 0, 6, 102);
        due.is("just a third overlaps not", x.follow(0, made(x, 102, 0, 2, 1, 2, 3, 4)), -16);
        keeps(due, "all refused", x, 0, first);
        int fits = made(x, 102, 0, 1, 1, 3, 4, 5, 0, 1);
        due.is("any set and parent, if signed by enough", x.follow(0, fits), 1);
        keeps(due, "a skip", x, 0, first, fits);
    }

    private static void theSpanHasAnEdge(Due due) {
        LightChecks x = world();
        int low = skip(x, 0), at50 = skip(x, 50), at51 = skip(x, 51), at52 = skip(x, 52);
        x.start(0, low);
        due.is("51 above", x.follow(0, at51), -15);
        due.is("50 above", x.follow(0, at50), 1);
        x.start(0, low);
        x.term(2, 51);
        due.is("52 above", x.follow(0, at52), -15);
        due.is("51 above, a span of 51", x.follow(0, at51), 1);
        x.term(2, 1);
        x.start(0, at50);
        due.is("2 above, a span of 1", x.follow(0, at52), -15);
        due.is("1 above is a step", x.follow(0, at51), -12);
    }

    private static void wrongFollowsChangeNothing(Due due) {
        LightChecks x = world();
        int low = skip(x, 0), high = skip(x, 9);
        x.start(2, low);
        for (int wrong : NO_SUCH) {
            due.is("follow, client " + wrong, x.follow(wrong, high), BAD);
            due.is("follow, head " + wrong, x.follow(2, wrong), BAD);
        }
        keeps(due, "after wrong follows", x, 2, low);
        tells(due, "after wrong follows", x, 2, 0, NONE, NONE);
    }

    private static void rowsGo(Due due) {
        LightChecks x = world();
        for (int i = 0; i < 30; i++) {
            skip(x, 2 * i);
        }
        x.start(0, 0);
        x.follow(0, 1);
        x.follow(0, 2);
        x.follow(0, 3);
        keeps(due, "just as many as rows", x, 0, 0, 1, 2, 3);
        x.follow(0, 4);
        keeps(due, "one more", x, 0, 0, 2, 3, 4);
        x.follow(0, 9);
        keeps(due, "two more", x, 0, 0, 3, 4, 9);
        due.is("the last one is trusted", x.follow(0, 9), -11);
        x.term(3, 2);
        x.start(1, 5);
        x.follow(1, 6);
        keeps(due, "rows of 2", x, 1, 5, 6);
        x.follow(1, 7);
        keeps(due, "rows of 2, one more", x, 1, 5, 7);
        x.term(3, 10);
        x.start(3, 0);
        for (int i = 1; i < 12; i++) {
            x.follow(3, i);
        }
        keeps(due, "rows of 10", x, 3, 0, 3, 4, 5, 6, 7, 8, 9, 10, 11);
    }

    private static void rowsChangeBetween(Due due) {
        LightChecks x = world();
        for (int i = 0; i < 20; i++) {
            skip(x, 2 * i);
        }
        x.term(3, 10);
        x.start(0, 0);
        for (int i = 1; i < 10; i++) {
            x.follow(0, i);
        }
        x.term(3, 3);
        keeps(due, "fewer rows, nothing stored yet", x, 0, 0, 1, 2, 3, 4, 5, 6, 7, 8, 9);
        x.follow(0, 9);
        due.is("what is refused lets none go", x.stored(0, -1), 10);
        x.follow(0, 10);
        keeps(due, "fewer rows", x, 0, 0, 9, 10);
        x.term(3, 5);
        x.follow(0, 11);
        x.follow(0, 12);
        keeps(due, "more rows", x, 0, 0, 9, 10, 11, 12);
        x.follow(0, 13);
        keeps(due, "more rows, one more", x, 0, 0, 10, 11, 12, 13);
    }

    private static void giversReplace(Due due) {
        LightChecks x = world();
        int a = skip(x, 7), b = skip(x, 7), c = skip(x, 8);
        for (int giver = 0; giver < 4; giver++) {
            due.is("give first", x.give(giver, a), NONE);
            due.is("give at another height", x.give(giver, c), NONE);
            due.is("give in its place", x.give(giver, b), a);
            due.is("give the same", x.give(giver, b), b);
            due.is("the other is as it was", x.give(giver, c), c);
        }
        for (int wrong : NO_SUCH) {
            due.is("give, giver " + wrong, x.give(wrong, a), BAD);
            due.is("give, head " + wrong, x.give(0, wrong), BAD);
        }
        LightChecks all = world();
        for (int i = 0; i < 60; i++) {
            due.is("give each " + i, all.give(3, skip(all, i)), NONE);
        }
        due.is("all heads of a giver", all.give(3, 59), 59);
    }

    private static void seekHalvesTheWay(Due due) {
        LightChecks x = world();
        int low = skip(x, 10);
        int[] at = {200, 105, 57, 152, 81, 128, 176};
        for (int height : at) {
            x.give(1, skip(x, height));
        }
        x.start(0, low);
        x.term(2, 48);
        x.term(3, 10);
        due.is("seek", x.seek(0, 1, 200), 1);
        // 200 and 105 are too far from 10; 57 and then 105 are stored; 200 is too far; 152 and then 200 are stored.
        keeps(due, "sought", x, 0, low, 3, 2, 4, 1);
        tells(due, "sought", x, 0, 7, NONE, NONE);
        due.is("seek what is not above", x.seek(0, 1, 200), -11);
        tells(due, "each try costs", x, 0, 8, 1, 200);
        LightChecks far = world();
        far.start(0, skip(far, 0));
        due.is("the whole height, nothing there", far.seek(0, 0, 100000), -17);
        tells(due, "nothing there", far, 0, 1, 7, 100000);
        far.term(2, 1000);
        for (int height = 100000; height > 500; height /= 2) {
            far.give(0, skip(far, height));
        }
        due.is("the whole height", far.seek(0, 0, 100000), -17);
        // 100000 down to 781, which is near enough (8 tries); 1562 is too, but between it and 3125 there is none.
        tells(due, "between there is none", far, 0, 1 + 8 + 3, 7, 2343);
    }

    private static void seekSkipsByOverlap(Due due) {
        LightChecks x = world();
        int low = made(x, 0, 0, 0, 0, 0, 1, 2);
        int high = made(x, 9, 0, 1, 1, 3, 4, 5), middle = made(x, 4, 0, 2, 1, 0, 2, 3, 4);
        x.start(0, low);
        x.give(0, high);
        due.is("no overlap, and nothing in the middle", x.seek(0, 0, 9), -17);
        tells(due, "the middle is cut", x, 0, 2, 7, 4);
        x.give(0, middle);
        due.is("over the middle", x.seek(0, 0, 9), 1);
        keeps(due, "over the middle", x, 0, low, middle, high);
        tells(due, "over the middle", x, 0, 5, 7, 4);
    }

    private static void seekIsOverWithEach(Due due) {
        LightChecks x = world();
        int low = made(x, 10, 0, 0, 1, 0, 1, 2);
        x.start(0, low);
        x.give(0, made(x, 10, 0, 0, 0));
        x.give(0, made(x, 11, 5, 0, 0));
        due.is("1", x.seek(0, 0, 10), -11);
        tells(due, "1", x, 0, 1, 1, 10);
        due.is("lower, with none there", x.seek(0, 0, 3), -17);
        tells(due, "lower, with none there", x, 0, 2, 7, 3);
        due.is("2", x.seek(0, 0, 11), -12);
        tells(due, "2", x, 0, 3, 2, 11);
        x.give(0, made(x, 11, x.digest(low), 0, 0));
        due.is("3", x.seek(0, 0, 11), -13);
        tells(due, "3", x, 0, 4, 3, 11);
        x.give(0, made(x, 11, x.digest(low), 1, 0));
        due.is("4", x.seek(0, 0, 11), -14);
        tells(due, "4", x, 0, 5, 4, 11);
        x.give(0, made(x, 12, 0, 0, 0, 0, 1, 2));
        due.is("6, and 4 on top", x.seek(0, 0, 12), -14);
        tells(due, "6, and 4 on top", x, 0, 7, 4, 11);
        x.give(0, made(x, 11, x.digest(low), 1, 0, 3, 4, 5));
        due.is("the step, and then 2 from there", x.seek(0, 0, 12), -12);
        tells(due, "the step, and then 2 from there", x, 0, 10, 2, 12);
        due.is("stored all the same", x.stored(0, -1), 2);
        x.give(0, made(x, 30, 0, 0, 0));
        due.is("a skip that is not certified", x.seek(0, 0, 30), -14);
        due.is("0 is a height", x.seek(0, 0, 0), -17);
        due.is("100000 is a height", x.seek(0, 0, 100000), -17);
        due.is("another giver has none", x.seek(0, 1, 12), -17);
    }

    private static void seekKeepsWhatWasStored(Due due) {
        LightChecks x = world();
        int low = skip(x, 0), forty = skip(x, 40), eighty = x.head(80, 0, 0, 0, 0);
        x.start(0, low);
        x.give(0, forty);
        x.give(0, eighty);
        due.is("the second is not certified", x.seek(0, 0, 80), -14);
        keeps(due, "the first stays", x, 0, low, forty);
        tells(due, "three tries", x, 0, 3, 4, 80);
        x.sign(eighty, 0);
        x.sign(eighty, 1);
        x.sign(eighty, 2);
        due.is("signed by now", x.seek(0, 0, 80), 1);
        tells(due, "the latest that was refused", x, 0, 4, 4, 80);
        due.is("follow costs nothing", x.follow(0, low), -11);
        tells(due, "a follow that was refused", x, 0, 4, 1, 0);
        x.term(3, 2);
        x.start(1, low);
        due.is("seek with rows of 2", x.seek(1, 0, 80), 1);
        keeps(due, "rows of 2", x, 1, low, eighty);
    }

    private static void wrongSeeksChangeNothing(Due due) {
        LightChecks x = world();
        x.start(0, skip(x, 0));
        x.give(0, skip(x, 5));
        for (int wrong : NO_SUCH) {
            due.is("seek, client " + wrong, x.seek(wrong, 0, 5), BAD);
            due.is("seek, giver " + wrong, x.seek(0, wrong, 5), BAD);
        }
        due.is("seek -1", x.seek(0, 0, -1), BAD);
        due.is("seek 100001", x.seek(0, 0, 100001), BAD);
        due.is("seek far below", x.seek(0, 0, Integer.MIN_VALUE), BAD);
        tells(due, "after wrong seeks", x, 0, 0, NONE, NONE);
        keeps(due, "after wrong seeks", x, 0, 0);
    }

    private static void giversAreCompared(Due due) {
        LightChecks x = world();
        int a9 = x.head(9, 1, 0, 0, 0), b9 = x.head(9, 2, 0, 0, 0), like9 = x.head(9, 1, 0, 0, 0);
        int a3 = x.head(3, 1, 0, 0, 0), b3 = x.head(3, 2, 0, 0, 0), a0 = x.head(0, 0, 0, 0, 1), b0 = x.head(0, 0, 0, 0, 2);
        x.give(0, a9);
        x.give(1, like9);
        x.sign(like9, 1);
        due.is("the same digests", x.compare(0, 1), NONE);
        x.give(1, b9);
        due.is("unlike", x.compare(0, 1), 9);
        due.is("unlike, turned", x.compare(1, 0), 9);
        x.give(0, a3);
        due.is("one alone does not count", x.compare(0, 1), 9);
        x.give(1, b3);
        due.is("the least height", x.compare(0, 1), 3);
        due.is("the least height, turned", x.compare(1, 0), 3);
        x.give(1, a3);
        due.is("alike by now", x.compare(0, 1), 9);
        x.give(0, a0);
        x.give(1, b0);
        due.is("height 0", x.compare(0, 1), 0);
        due.is("with itself", x.compare(0, 0), NONE);
        due.is("with one that has none", x.compare(0, 3), NONE);
        for (int wrong : NO_SUCH) {
            due.is("compare " + wrong, x.compare(wrong, 0), BAD);
            due.is("compare with " + wrong, x.compare(0, wrong), BAD);
            due.is("blame, client " + wrong, x.blame(wrong, 0, 1), BAD);
            due.is("blame, a " + wrong, x.blame(0, wrong, 1), BAD);
            due.is("blame, b " + wrong, x.blame(0, 0, wrong), BAD);
        }
    }

    private static void giversAreBlamed(Due due) {
        LightChecks x = world();
        int low = skip(x, 0), a = x.head(20, 1, 0, 0, 0), b = x.head(20, 2, 0, 0, 0);
        x.start(0, low);
        due.is("unlike nowhere", x.blame(0, 0, 1), NONE);
        x.give(0, a);
        x.give(1, b);
        due.is("not begun", x.blame(1, 0, 1), NONE);
        due.is("neither", x.blame(0, 0, 1), 0);
        for (int node = 0; node < 3; node++) {
            x.sign(a, node);
        }
        due.is("the first", x.blame(0, 0, 1), 1);
        due.is("the second", x.blame(0, 1, 0), 2);
        for (int node = 0; node < 3; node++) {
            x.sign(b, node);
        }
        due.is("both", x.blame(0, 0, 1), 3);
        keeps(due, "blame changes nothing", x, 0, low);
        tells(due, "blame changes nothing", x, 0, 0, NONE, NONE);
        x.term(2, 19);
        due.is("too far", x.blame(0, 0, 1), 0);
        due.is("unlike nowhere with another", x.blame(0, 0, 2), NONE);
        due.is("with itself", x.blame(0, 0, 0), NONE);
    }

    private static void blameLooksBelow(Due due) {
        LightChecks x = world();
        int ten = skip(x, 10), nineteen = skip(x, 19), twenty = skip(x, 20), thirty = skip(x, 30);
        int step = made(x, 20, x.digest(nineteen), 0, 0, 0, 1, 2);
        x.give(0, twenty);
        x.give(1, step);
        x.start(0, ten);
        x.follow(0, nineteen);
        due.is("just the step from 19", x.blame(0, 0, 1), 2);
        x.follow(0, thirty);
        due.is("what is above does not count", x.blame(0, 0, 1), 2);
        x.start(0, ten);
        x.follow(0, thirty);
        due.is("both skip from 10", x.blame(0, 0, 1), 3);
        x.start(0, twenty);
        due.is("none below, one there", x.blame(0, 0, 1), NONE);
        x.start(0, thirty);
        due.is("none below, one above", x.blame(0, 0, 1), NONE);
        x.start(0, ten);
        x.follow(0, step);
        due.is("one there already", x.blame(0, 0, 1), 3);
    }
}
