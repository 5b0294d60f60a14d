/** The edges of promises 9 to 16. */
final class ClientsAndGiversEdges extends Worlds {

    static void all(Due due) {
        promise9BegunWithAHead(due);
        promise9Bad(due);
        promise10TheFirstNumber(due);
        promise10Bad(due);
        promise10None(due);
        promise11WhichItHad(due);
        promise11Bad(due);
        promise12WhatItWasOverWith(due);
        promise12WhatWasStoredStays(due);
        promise12Bad(due);
        promise12None(due);
        promise13HeadK(due);
        promise13Bad(due);
        promise13None(due);
        promise14Cost(due);
        promise14LatestNumber(due);
        promise14AtWhichHeight(due);
        promise14NoneSinceItWasBegun(due);
        promise14Bad(due);
        promise15LeastHeight(due);
        promise15Bad(due);
        promise16FirstAndSecond(due);
        promise16JustThoseBelow(due);
        promise16NothingChanges(due);
        promise16Bad(due);
        promise16None(due);
    }

    private static void promise9BegunWithAHead(Due due) {
        due.sentence("Promise 9", "A CLIENT is begun with a HEAD (what it stored goes; it cost nothing, was refused nothing): 1.");
        LightChecks x = world();
        int low = skip(x, 0), high = skip(x, 9), other = x.head(5, 0, 1, 1, 0);
        due.is("begun", x.start(0, low), 1);
        x.start(1, low);
        x.follow(0, high);
        x.seek(0, 0, 30);
        x.seek(1, 0, 30);
        keeps(due, "before", x, 0, low, high);
        tells(due, "before", x, 0, 1, 7, 30);
        due.is("begun again, lower and signed by nobody", x.start(0, other), 1);
        keeps(due, "begun again", x, 0, other);
        tells(due, "begun again", x, 0, 0, NONE, NONE);
        keeps(due, "another client is as it was", x, 1, low);
        tells(due, "another client is as it was", x, 1, 1, 7, 30);
    }

    private static void promise9Bad(Due due) {
        due.sentence("Promise 9", "BAD.");
        LightChecks x = world();
        int low = skip(x, 0);
        x.start(0, low);
        x.seek(0, 0, 30);
        for (int wrong : new int[] {-1, 4, LEAST, MOST}) {
            due.is("client " + wrong, x.start(wrong, low), BAD);
        }
        for (int wrong : new int[] {-1, 1, 59, 60, LEAST, MOST}) {
            due.is("head " + wrong, x.start(0, wrong), BAD);
            due.is("head " + wrong + ", not begun", x.start(3, wrong), BAD);
        }
        keeps(due, "as it was", x, 0, low);
        tells(due, "as it was", x, 0, 1, 7, 30);
        keeps(due, "not begun by that", x, 3);
    }

    private static void promise10TheFirstNumber(Due due) {
        due.sentence("Promise 10", "A HEAD is TRIED: 1; else -10 less the first number of 1 to 6 that is so.");
        LightChecks x = world();
        int low = made(x, 10, 0, 0, 1, 0, 1, 2);
        long parent = x.digest(low);
        x.start(0, low);
        due.is("1", x.follow(0, low), -11);
        due.is("2", x.follow(0, made(x, 11, parent - 1, 1, 1, 3, 4, 5)), -12);
        due.is("3", x.follow(0, made(x, 11, parent, 0, 1, 0, 1, 2)), -13);
        due.is("4, a step", x.follow(0, made(x, 11, parent, 1, 1, 3, 4)), -14);
        due.is("4, a skip", x.follow(0, made(x, 60, parent, 1, 1, 3, 4)), -14);
        due.is("5", x.follow(0, made(x, 61, parent, 1, 1, 3, 4, 5)), -15);
        due.is("6", x.follow(0, made(x, 60, parent, 0, 1, 0, 1, 2)), -16);
        keeps(due, "nothing yet", x, 0, low);
        due.is("none of them, a step", x.follow(0, made(x, 11, parent, 1, 1, 3, 4, 5)), 1);
        due.is("none of them, a skip", x.follow(0, made(x, 61, 0, 1, 1, 3, 4, 5)), 1);
        due.is("two more", x.stored(0, -1), 3);
    }

    private static void promise10Bad(Due due) {
        due.sentence("Promise 10", "BAD;");
        LightChecks x = world();
        int low = skip(x, 0), high = skip(x, 9);
        x.start(0, low);
        for (int wrong : new int[] {-1, 4, LEAST, MOST}) {
            due.is("client " + wrong, x.follow(wrong, high), BAD);
        }
        for (int wrong : new int[] {-1, 2, 59, 60, LEAST, MOST}) {
            due.is("head " + wrong, x.follow(0, wrong), BAD);
            due.is("head " + wrong + ", ahead of NONE", x.follow(1, wrong), BAD);
        }
        tells(due, "that is not refused by a number", x, 0, 0, NONE, NONE);
    }

    private static void promise10None(Due due) {
        due.sentence("Promise 10", "NONE: it was not begun.");
        LightChecks x = world();
        int low = skip(x, 0);
        for (int client = 0; client < 4; client++) {
            due.is("client " + client, x.follow(client, low), NONE);
            keeps(due, "it is not begun by that", x, client);
            tells(due, "that is not refused by a number", x, client, 0, NONE, NONE);
        }
        x.start(2, low);
        due.is("begun", x.follow(2, low), -11);
        due.is("another one is not begun by that", x.follow(1, low), NONE);
    }

    private static void promise11WhichItHad(Due due) {
        due.sentence("Promise 11", "A GIVER has a HEAD at its HEIGHT from now on: which it had there, NONE.");
        LightChecks x = world();
        int low = skip(x, 0), a = skip(x, 7), b = skip(x, 7), else8 = skip(x, 8);
        due.is("it had none", x.give(0, a), NONE);
        due.is("it had none at another height", x.give(0, else8), NONE);
        due.is("another giver had none", x.give(1, b), NONE);
        due.is("it had a", x.give(0, b), a);
        due.is("it had b, and has it yet", x.give(0, b), b);
        due.is("back to a", x.give(0, a), b);
        x.start(0, low);
        due.is("what it has is sought", x.seek(0, 0, 7), 1);
        keeps(due, "a, not b", x, 0, low, a);
        due.is("head 0 is a number, not none", x.give(3, low), NONE);
        due.is("it had head 0", x.give(3, low), 0);
    }

    private static void promise11Bad(Due due) {
        due.sentence("Promise 11", "BAD.");
        LightChecks x = world();
        int a = skip(x, 7);
        x.give(0, a);
        for (int wrong : new int[] {-1, 4, LEAST, MOST}) {
            due.is("giver " + wrong, x.give(wrong, a), BAD);
        }
        for (int wrong : new int[] {-1, 1, 59, 60, LEAST, MOST}) {
            due.is("head " + wrong, x.give(0, wrong), BAD);
        }
        due.is("it has a yet", x.give(0, a), a);
    }

    private static void promise12WhatItWasOverWith(Due due) {
        due.sentence("Promise 12", "A CLIENT SEEKS a HEIGHT with a GIVER: 1; else -10 less what it was over with (1 to 4, 7).");
        LightChecks x = world();
        int low = made(x, 10, 0, 0, 1, 0, 1, 2);
        long parent = x.digest(low);
        x.start(0, low);
        x.give(0, low);
        due.is("1", x.seek(0, 0, 10), -11);
        x.give(0, made(x, 11, 0, 1, 1, 3, 4, 5));
        due.is("2", x.seek(0, 0, 11), -12);
        x.give(0, made(x, 11, parent, 0, 1, 0, 1, 2));
        due.is("3", x.seek(0, 0, 11), -13);
        x.give(0, made(x, 11, parent, 1, 1, 3, 4));
        due.is("4", x.seek(0, 0, 11), -14);
        due.is("7", x.seek(0, 0, 12), -17);
        x.give(0, made(x, 100, 0, 1, 1, 3, 4, 5));
        due.is("5 halves the way, and is never what it is over with", x.seek(0, 0, 100), -17);
        x.give(0, made(x, 12, 0, 0, 1, 0, 1, 2));
        due.is("6 halves the way, and is never what it is over with", x.seek(0, 0, 12), -14);
        keeps(due, "nothing yet", x, 0, low);
        int step = made(x, 11, parent, 1, 1, 3, 4, 5);
        x.give(0, step);
        due.is("stored", x.seek(0, 0, 11), 1);
        keeps(due, "stored", x, 0, low, step);
        due.is("0 is a height", x.seek(0, 0, 0), -17);
        due.is("100000 is a height", x.seek(0, 0, 100000), -17);
    }

    private static void promise12WhatWasStoredStays(Due due) {
        due.sentence("Promise 12", "What was stored stays.");
        LightChecks x = world();
        int low = skip(x, 0), at25 = skip(x, 25), at50 = skip(x, 50), at100 = skip(x, 100);
        x.start(0, low);
        x.give(0, at100);
        x.give(0, at50);
        x.give(0, at25);
        x.term(2, 25);
        due.is("25 and 50 are stored, and none is at 75", x.seek(0, 0, 100), -17);
        keeps(due, "25 and 50 stay", x, 0, low, at25, at50);
        // 100, 50 and 25; 50; 100, and 75 where there is none.
        tells(due, "six tries", x, 0, 6, 7, 75);
        x.give(0, x.head(75, 0, 0, 0, 0));
        due.is("one at 75 that is not certified", x.seek(0, 0, 100), -14);
        keeps(due, "25 and 50 stay yet", x, 0, low, at25, at50);
    }

    private static void promise12Bad(Due due) {
        due.sentence("Promise 12", "BAD;");
        LightChecks x = world();
        x.start(0, skip(x, 0));
        x.give(0, skip(x, 5));
        for (int wrong : new int[] {-1, 4, LEAST, MOST}) {
            due.is("client " + wrong, x.seek(wrong, 0, 5), BAD);
            due.is("giver " + wrong, x.seek(0, wrong, 5), BAD);
            due.is("giver " + wrong + ", ahead of NONE", x.seek(1, wrong, 5), BAD);
        }
        for (int wrong : new int[] {-1, 100001, LEAST, MOST}) {
            due.is("height " + wrong, x.seek(0, 0, wrong), BAD);
            due.is("height " + wrong + ", ahead of NONE", x.seek(1, 0, wrong), BAD);
        }
        tells(due, "that costs nothing", x, 0, 0, NONE, NONE);
        keeps(due, "nothing was stored", x, 0, 0);
    }

    private static void promise12None(Due due) {
        due.sentence("Promise 12", "NONE: it was not begun.");
        LightChecks x = world();
        x.give(0, skip(x, 5));
        for (int client = 0; client < 4; client++) {
            due.is("client " + client, x.seek(client, 0, 5), NONE);
            due.is("client " + client + ", none there", x.seek(client, 0, 6), NONE);
            keeps(due, "it is not begun by that", x, client);
            tells(due, "that costs nothing", x, client, 0, NONE, NONE);
        }
    }

    private static void promise13HeadK(Due due) {
        due.sentence("Promise 13", "HEAD k that a CLIENT stores, from 0; k = -1: how many.");
        LightChecks x = world();
        due.is("how many, not begun", x.stored(0, -1), 0);
        x.term(3, 10);
        for (int i = 0; i < 10; i++) {
            skip(x, 2 * i);
        }
        x.start(0, 0);
        due.is("how many, begun", x.stored(0, -1), 1);
        due.is("the first is head 0", x.stored(0, 0), 0);
        for (int i = 1; i < 10; i++) {
            x.follow(0, i);
            due.is("how many " + i, x.stored(0, -1), i + 1);
            due.is("the last " + i, x.stored(0, i), i);
        }
        due.is("the first yet", x.stored(0, 0), 0);
    }

    private static void promise13Bad(Due due) {
        due.sentence("Promise 13", "BAD: no such CLIENT, k below -1;");
        LightChecks x = world();
        x.start(0, skip(x, 0));
        for (int wrong : new int[] {-1, 4, LEAST, MOST}) {
            due.is("client " + wrong, x.stored(wrong, 0), BAD);
            due.is("client " + wrong + ", how many", x.stored(wrong, -1), BAD);
            due.is("client " + wrong + ", ahead of NONE", x.stored(wrong, 50), BAD);
        }
        for (int wrong : new int[] {-2, -3, LEAST}) {
            due.is("k " + wrong, x.stored(0, wrong), BAD);
            due.is("k " + wrong + ", not begun", x.stored(3, wrong), BAD);
        }
    }

    private static void promise13None(Due due) {
        due.sentence("Promise 13", "NONE: it has not so many.");
        LightChecks x = world();
        due.is("not begun, k 0", x.stored(0, 0), NONE);
        x.start(0, skip(x, 0));
        due.is("begun, k 0", x.stored(0, 0), 0);
        for (int k : new int[] {1, 2, 3, 10, 11, 12, 60, MOST}) {
            due.is("begun, k " + k, x.stored(0, k), NONE);
        }
        x.term(3, 2);
        x.follow(0, skip(x, 9));
        x.follow(0, skip(x, 19));
        due.is("the last of two rows", x.stored(0, 1), 2);
        due.is("behind it", x.stored(0, 2), NONE);
        x.start(0, 0);
        due.is("behind the one that it began with again", x.stored(0, 1), NONE);
    }

    private static void promise14Cost(Due due) {
        due.sentence("Promise 14", "Of a CLIENT: 0 what its seek()s cost since it was begun,");
        LightChecks x = world();
        due.is("not begun", x.client(0, 0), 0);
        int low = skip(x, 0), high = skip(x, 20);
        x.start(0, low);
        due.is("begun", x.client(0, 0), 0);
        x.give(0, high);
        x.seek(0, 0, 20);
        due.is("stored", x.client(0, 0), 1);
        x.seek(0, 0, 20);
        x.seek(0, 1, 20);
        due.is("two that were refused", x.client(0, 0), 3);
        x.follow(0, skip(x, 30));
        x.follow(0, low);
        x.blame(0, 0, 1);
        x.seek(0, 4, 20);
        due.is("what is no seek, or a wrong one, costs nothing", x.client(0, 0), 3);
        x.start(0, low);
        due.is("begun again", x.client(0, 0), 0);
        x.seek(0, 0, 20);
        due.is("one seek since then", x.client(0, 0), 1);
    }

    private static void promise14LatestNumber(Due due) {
        due.sentence("Promise 14", "1 the number (1 to 7) of its latest follow() or seek() that was refused by that,");
        LightChecks x = world();
        int low = made(x, 10, 0, 0, 1, 0, 1, 2);
        long parent = x.digest(low);
        int[] refused = {low, made(x, 11, 0, 1, 1), made(x, 11, parent, 0, 1), made(x, 11, parent, 1, 1),
            made(x, 61, 0, 0, 0), made(x, 60, 0, 0, 0, 0, 1, 2)};
        x.start(0, low);
        for (int i = 0; i < refused.length; i++) {
            x.follow(0, refused[i]);
            due.is("by follow", x.client(0, 1), i + 1);
        }
        x.seek(0, 0, 20);
        due.is("by seek, none there", x.client(0, 1), 7);
        for (int i = 0; i < 4; i++) {
            x.give(0, refused[i]);
            x.seek(0, 0, i == 0 ? 10 : 11);
            due.is("by seek", x.client(0, 1), i + 1);
        }
        x.follow(0, made(x, 11, parent, 1, 1, 3, 4, 5));
        due.is("one that is stored does not count", x.client(0, 1), 4);
        x.follow(0, 60);
        x.seek(0, 4, 11);
        due.is("one that is wrong does not count", x.client(0, 1), 4);
        due.is("another client has none", x.client(1, 1), NONE);
    }

    private static void promise14AtWhichHeight(Due due) {
        due.sentence("Promise 14", "2 at which HEIGHT");
        LightChecks x = world();
        int low = skip(x, 0), high = skip(x, 100000);
        x.start(0, low);
        x.follow(0, low);
        due.is("0", x.client(0, 2), 0);
        x.follow(0, high);
        due.is("100000", x.client(0, 2), 100000);
        x.give(0, high);
        x.seek(0, 0, 100000);
        due.is("where the seek was over, not what was sought", x.client(0, 2), 50000);
        x.seek(0, 0, 0);
        due.is("0 by seek", x.client(0, 2), 0);
        x.seek(0, 1, 100000);
        due.is("100000 by seek", x.client(0, 2), 100000);
        x.follow(0, skip(x, 20));
        due.is("one that is stored does not count", x.client(0, 2), 100000);
        x.seek(0, 0, 100001);
        due.is("one that is wrong does not count", x.client(0, 2), 100000);
    }

    private static void promise14NoneSinceItWasBegun(Due due) {
        due.sentence("Promise 14", "(1, 2: NONE, if none was since it was begun).");
        LightChecks x = world();
        int low = skip(x, 0);
        for (int client = 0; client < 4; client++) {
            tells(due, "not begun", x, client, 0, NONE, NONE);
            x.follow(client, low);
            tells(due, "not begun, followed all the same", x, client, 0, NONE, NONE);
            x.start(client, low);
            tells(due, "begun", x, client, 0, NONE, NONE);
            x.follow(client, low);
            tells(due, "refused", x, client, 0, 1, 0);
            x.start(client, low);
            tells(due, "begun again", x, client, 0, NONE, NONE);
        }
        x.follow(0, skip(x, 50));
        tells(due, "what is stored is not refused", x, 0, 0, NONE, NONE);
    }

    private static void promise14Bad(Due due) {
        due.sentence("Promise 14", "BAD.");
        LightChecks x = world();
        x.start(0, skip(x, 0));
        for (int wrong : new int[] {-1, 4, LEAST, MOST}) {
            for (int what = 0; what < 3; what++) {
                due.is("client " + wrong + ", " + what, x.client(wrong, what), BAD);
            }
        }
        for (int wrong : new int[] {-1, 3, LEAST, MOST}) {
            due.is("what " + wrong, x.client(0, wrong), BAD);
            due.is("what " + wrong + ", not begun", x.client(3, wrong), BAD);
        }
    }

    private static void promise15LeastHeight(Due due) {
        due.sentence("Promise 15", "The least HEIGHT at which two GIVERS are UNLIKE; NONE.");
        LightChecks x = world();
        int[] heights = {100000, 99999, 7, 8, 1, 0};
        due.is("nothing given", x.compare(0, 1), NONE);
        int least = MOST;
        for (int height : heights) {
            x.give(2, x.head(height, 1, 0, 0, 0));
            x.give(3, x.head(height, 2, 0, 0, 0));
            least = Math.min(least, height);
            due.is("unlike at " + height + " too", x.compare(2, 3), least);
            due.is("unlike at " + height + " too, turned", x.compare(3, 2), least);
        }
        x.give(2, x.head(0, 2, 0, 0, 0));
        due.is("alike at 0 by now", x.compare(2, 3), 1);
        due.is("a giver with itself", x.compare(2, 2), NONE);
        due.is("with one that has nothing", x.compare(2, 0), NONE);
    }

    private static void promise15Bad(Due due) {
        due.sentence("Promise 15", "BAD.");
        LightChecks x = world();
        for (int wrong : new int[] {-1, 4, LEAST, MOST}) {
            due.is("a " + wrong, x.compare(wrong, 0), BAD);
            due.is("b " + wrong, x.compare(0, wrong), BAD);
            due.is("both " + wrong, x.compare(wrong, wrong), BAD);
        }
    }

    private static void promise16FirstAndSecond(Due due) {
        due.sentence("Promise 16", "Of two GIVERS that are UNLIKE at that HEIGHT: 1, if the HEAD of the first would be stored there "
            + "by the CLIENT (by follow()), and 2, if that of the second would, added,");
        LightChecks x = world();
        int low = skip(x, 0), a = x.head(50, 1, 0, 0, 0), b = x.head(50, 2, 0, 0, 0);
        x.start(0, low);
        x.give(0, a);
        x.give(1, b);
        due.is("neither is certified", x.blame(0, 0, 1), 0);
        signAll(x, a);
        due.is("the first", x.blame(0, 0, 1), 1);
        due.is("the second, turned", x.blame(0, 1, 0), 2);
        signAll(x, b);
        due.is("both", x.blame(0, 0, 1), 3);
        x.term(2, 49);
        due.is("both are too far", x.blame(0, 0, 1), 0);
        x.term(2, 50);
        x.term(0, 3);
        due.is("both do not overlap", x.blame(0, 0, 1), 0);
        x.give(0, x.head(60, 1, 0, 0, 0));
        x.give(1, x.head(60, 2, 0, 0, 0));
        x.term(0, 1);
        due.is("just the least height counts", x.blame(0, 0, 1), 3);
    }

    private static void signAll(LightChecks x, int head) {
        for (int node = 0; node < 3; node++) {
            x.sign(head, node);
        }
    }

    private static void promise16JustThoseBelow(Due due) {
        due.sentence("Promise 16", "when it had just those HEADS that it stores below that HEIGHT.");
        LightChecks x = world();
        int ten = skip(x, 10), nineteen = skip(x, 19), twenty = skip(x, 20), thirty = skip(x, 30);
        int step = step(x, 20, nineteen);
        x.give(0, twenty);
        x.give(1, step);
        x.start(0, ten);
        due.is("both are skips from 10", x.blame(0, 0, 1), 3);
        x.follow(0, nineteen);
        due.is("only one is a step from 19", x.blame(0, 0, 1), 2);
        x.follow(0, step);
        due.is("one at that height does not count", x.blame(0, 0, 1), 2);
        x.follow(0, thirty);
        due.is("one above does not count", x.blame(0, 0, 1), 2);
        x.term(3, 2);
        x.follow(0, skip(x, 40));
        due.is("one that is stored no more does not count", x.blame(0, 0, 1), 3);
        x.start(0, ten);
        x.follow(0, twenty);
        due.is("10 alone is below", x.blame(0, 0, 1), 3);
    }

    private static void promise16NothingChanges(Due due) {
        due.sentence("Promise 16", "Nothing changes.");
        LightChecks x = world();
        int low = skip(x, 0), a = skip(x, 9), b = x.head(9, 5, 0, 0, 0), high = skip(x, 20);
        x.start(0, low);
        x.follow(0, high);
        x.seek(0, 0, 30);
        x.give(0, a);
        x.give(1, b);
        due.is("one would be stored, one refused", x.blame(0, 0, 1), 1);
        due.is("and again", x.blame(0, 0, 1), 1);
        keeps(due, "nothing was stored, and what is above is there", x, 0, low, high);
        tells(due, "nothing was refused, and it cost nothing", x, 0, 1, 7, 30);
        due.is("the givers are as they were", x.compare(0, 1), 9);
    }

    private static void promise16Bad(Due due) {
        due.sentence("Promise 16", "BAD;");
        LightChecks x = world();
        x.start(0, skip(x, 0));
        x.give(0, x.head(9, 1, 0, 0, 0));
        x.give(1, x.head(9, 2, 0, 0, 0));
        for (int wrong : new int[] {-1, 4, LEAST, MOST}) {
            due.is("client " + wrong, x.blame(wrong, 0, 1), BAD);
            due.is("a " + wrong, x.blame(0, wrong, 1), BAD);
            due.is("b " + wrong, x.blame(0, 0, wrong), BAD);
            due.is("client " + wrong + ", ahead of NONE", x.blame(wrong, 0, 0), BAD);
            due.is("a " + wrong + ", ahead of NONE", x.blame(3, wrong, 0), BAD);
        }
    }

    private static void promise16None(Due due) {
        due.sentence("Promise 16", "NONE: they are UNLIKE nowhere, or it stores none below.");
        LightChecks x = world();
        int low = skip(x, 5), level = skip(x, 9), high = skip(x, 10), a = x.head(9, 1, 0, 0, 0), b = x.head(9, 2, 0, 0, 0);
        x.start(0, low);
        due.is("nothing given", x.blame(0, 0, 1), NONE);
        x.give(0, a);
        due.is("one alone", x.blame(0, 0, 1), NONE);
        due.is("a giver with itself", x.blame(0, 0, 0), NONE);
        x.give(1, b);
        due.is("one below", x.blame(0, 0, 1), 0);
        due.is("not begun", x.blame(1, 0, 1), NONE);
        x.start(1, level);
        due.is("one at that height alone", x.blame(1, 0, 1), NONE);
        x.start(1, high);
        due.is("one above alone", x.blame(1, 0, 1), NONE);
        x.give(0, x.head(5, 1, 0, 0, 0));
        x.give(1, x.head(5, 2, 0, 0, 0));
        due.is("below 9, but not below 5, the least height", x.blame(0, 0, 1), NONE);
        x.give(0, x.head(0, 1, 0, 0, 0));
        x.give(1, x.head(0, 2, 0, 0, 0));
        x.start(0, skip(x, 0));
        due.is("nothing is below 0", x.blame(0, 0, 1), NONE);
    }
}
