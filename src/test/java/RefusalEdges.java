import java.util.ArrayList;
import java.util.List;
import java.util.function.ToLongFunction;

/** The edges of 'Terms' on BAD, NONE and FULL: what they answer, which comes first, and that nothing changes. */
final class RefusalEdges extends Worlds {
    private static final String TERMS = "Terms";
    private static final int SETS = 12, HEADS = 8;

    private record Call(String name, long answer, ToLongFunction<LightChecks> ask) {
    }

    static void all(Due due) {
        termsBad(due);
        termsNone(due);
        termsFull(due);
        termsTheFirstInThisOrder(due);
        termsWhatIsRefusedChangesNothing(due);
        termsWhatIsRefusedByANumber(due);
    }

    /** Sets 0 to 9 show who signed: each has the weight of one node. The second client is not begun, the second giver has nothing. */
    private static LightChecks rich() {
        LightChecks x = new LightChecks();
        for (int node = 0; node < 10; node++) {
            x.set(node < 5 ? 1L << 7 * node : 0, node < 5 ? 0 : 1L << 7 * (node - 5));
        }
        x.set(weights(10, 10, 10), 0);
        x.set(weights(0, 0, 0, 10, 10), 10);
        int[] terms = {2, 7, 40, 3};
        for (int what = 0; what < terms.length; what++) {
            x.term(what, terms[what]);
        }
        richTree(x);
        richHeads(x);
        richClients(x);
        return x;
    }

    private static void richTree(LightChecks x) {
        for (int k = 0; k < 8; k++) {
            x.leaf(k, 11 * k - 20);
        }
        x.prove(2, 3);
        x.alter(4, 99);
    }

    private static void richHeads(LightChecks x) {
        made(x, 0, 0, 10, 10, 0, 1, 2);
        made(x, 1, x.digest(0), 10, 10, 0, 1, 2);
        made(x, 30, 0, 10, 10, 0, 1, 2, 7);
        made(x, 60, 0, 10, 10, 0, 1, 2);
        made(x, 60, 5, 10, 10, 0, 1, 2);
        made(x, 61, 0, 10, 10);
        made(x, 100, 0, 11, 11, 3, 4, 5);
        x.head(61, 0, 10, 11, x.tree(1));
    }

    private static void richClients(LightChecks x) {
        int[][] given = {{0, 2}, {0, 3}, {0, 6}, {2, 4}, {2, 5}, {3, 0}};
        for (int[] row : given) {
            x.give(row[0], row[1]);
        }
        x.start(0, 0);
        x.follow(0, 1);
        x.follow(0, 2);
        x.follow(0, 3);
        x.seek(0, 0, 99);
        x.start(2, 6);
        x.start(3, 2);
        x.seek(3, 0, 60);
        x.follow(3, 0);
    }

    /** All that can be asked of an object; the last questions change it, so that it is of no use behind them. */
    private static List<Long> asked(LightChecks x) {
        List<Long> told = new ArrayList<>();
        for (int what = 0; what < 6; what++) {
            told.add((long) x.told(what));
        }
        for (int head = 0; head < HEADS; head++) {
            told.add(x.digest(head));
            told.add((long) x.certified(head));
            for (int set = 0; set < 10; set++) {
                told.add((long) x.overlaps(head, set));
            }
        }
        for (int k = 1; k < 16; k++) {
            told.add(x.tree(k));
        }
        for (int k = 0; k < 8; k++) {
            told.add(x.proof(k));
        }
        askedOfClients(x, told);
        askedByChanges(x, told);
        return told;
    }

    private static void askedOfClients(LightChecks x, List<Long> told) {
        for (int client = 0; client < 4; client++) {
            for (int k = -1; k < 5; k++) {
                told.add((long) x.stored(client, k));
            }
            for (int what = 0; what < 3; what++) {
                told.add((long) x.client(client, what));
            }
            told.add((long) x.blame(client, 0, 2));
        }
    }

    private static void askedByChanges(LightChecks x, List<Long> told) {
        for (int k = 0; k < 8; k++) {
            told.add(x.leaf(k, 0));
        }
        for (int giver = 0; giver < 4; giver++) {
            for (int head : new int[] {0, 1, 2, 3, 5, 6}) {
                told.add((long) x.give(giver, head));
            }
        }
    }

    /** Each number of each call once too small, once too large, once at either end of the ints. */
    private static List<Call> bad() {
        List<Call> calls = new ArrayList<>();
        badOfSetsAndHeads(calls);
        for (int v : new int[] {-1, 4, LEAST, MOST}) {
            badOfClientsAndGivers(calls, v);
        }
        for (int v : new int[] {-2, -3, LEAST}) {
            calls.add(new Call("stored, k " + v, BAD, x -> x.stored(0, v)));
        }
        for (int v : new int[] {-1, HEADS, 59, 60, LEAST, MOST}) {
            badOfNumbersOfHeads(calls, v);
        }
        badOfTheTree(calls);
        badOfSamples(calls);
        return calls;
    }

    private static void badOfSetsAndHeads(List<Call> calls) {
        for (long v : new long[] {101, 127, 101L << 28, 1L << 35, Long.MIN_VALUE, -1}) {
            calls.add(new Call("set a " + v, BAD, x -> x.set(v, 0)));
            calls.add(new Call("set b " + v, BAD, x -> x.set(0, v)));
        }
        for (int v : new int[] {-1, 100001, LEAST, MOST}) {
            calls.add(new Call("head, height " + v, BAD, x -> x.head(v, 0, 0, 0, 0)));
            calls.add(new Call("seek, height " + v, BAD, x -> x.seek(0, 0, v)));
        }
        for (int v : new int[] {-1, SETS, 15, 16, LEAST, MOST}) {
            calls.add(new Call("head, set " + v, BAD, x -> x.head(5, 0, v, 0, 0)));
            calls.add(new Call("head, next " + v, BAD, x -> x.head(5, 0, 0, v, 0)));
            calls.add(new Call("overlaps, set " + v, BAD, x -> x.overlaps(0, v)));
        }
        for (int v : new int[] {-1, 10, 32, LEAST, MOST}) {
            calls.add(new Call("sign, node " + v, BAD, x -> x.sign(0, v)));
        }
        int[][] terms = {{-1, 5}, {4, 5}, {LEAST, 5}, {MOST, 5}, {0, 0}, {0, 11}, {1, 0}, {1, 11}, {2, 0}, {2, 1001}, {3, 1}, {3, 11},
            {0, LEAST}, {1, MOST}, {2, LEAST}, {3, MOST}};
        for (int[] row : terms) {
            calls.add(new Call("term " + row[0] + " " + row[1], BAD, x -> x.term(row[0], row[1])));
        }
        for (int v : new int[] {-1, 6, LEAST, MOST}) {
            calls.add(new Call("told " + v, BAD, x -> x.told(v)));
        }
    }

    private static void badOfClientsAndGivers(List<Call> calls, int v) {
        calls.add(new Call("start, client " + v, BAD, x -> x.start(v, 0)));
        calls.add(new Call("follow, client " + v, BAD, x -> x.follow(v, 0)));
        calls.add(new Call("seek, client " + v, BAD, x -> x.seek(v, 0, 60)));
        calls.add(new Call("stored, client " + v, BAD, x -> x.stored(v, 0)));
        calls.add(new Call("client, client " + v, BAD, x -> x.client(v, 0)));
        calls.add(new Call("client, what " + v, BAD, x -> x.client(0, v)));
        calls.add(new Call("blame, client " + v, BAD, x -> x.blame(v, 0, 2)));
        calls.add(new Call("give, giver " + v, BAD, x -> x.give(v, 0)));
        calls.add(new Call("seek, giver " + v, BAD, x -> x.seek(0, v, 60)));
        calls.add(new Call("compare, a " + v, BAD, x -> x.compare(v, 0)));
        calls.add(new Call("compare, b " + v, BAD, x -> x.compare(0, v)));
        calls.add(new Call("blame, a " + v, BAD, x -> x.blame(0, v, 2)));
        calls.add(new Call("blame, b " + v, BAD, x -> x.blame(0, 0, v)));
    }

    private static void badOfNumbersOfHeads(List<Call> calls, int v) {
        calls.add(new Call("sign, head " + v, BAD, x -> x.sign(v, 0)));
        calls.add(new Call("digest, head " + v, 0, x -> x.digest(v)));
        calls.add(new Call("certified, head " + v, BAD, x -> x.certified(v)));
        calls.add(new Call("overlaps, head " + v, BAD, x -> x.overlaps(v, 0)));
        calls.add(new Call("start, head " + v, BAD, x -> x.start(0, v)));
        calls.add(new Call("follow, head " + v, BAD, x -> x.follow(0, v)));
        calls.add(new Call("give, head " + v, BAD, x -> x.give(0, v)));
        calls.add(new Call("fraud, before " + v, BAD, x -> x.fraud(v, 0, 1)));
        calls.add(new Call("fraud, head " + v, BAD, x -> x.fraud(0, v, 1)));
    }

    private static void badOfTheTree(List<Call> calls) {
        for (int v : new int[] {-1, 8, LEAST, MOST}) {
            calls.add(new Call("leaf " + v, 0, x -> x.leaf(v, 5)));
            calls.add(new Call("prove, a " + v, BAD, x -> x.prove(v, 0)));
            calls.add(new Call("prove, b " + v, BAD, x -> x.prove(0, v)));
            calls.add(new Call("proof " + v, 0, x -> x.proof(v)));
            calls.add(new Call("alter " + v, BAD, x -> x.alter(v, 5)));
        }
        for (int v : new int[] {-1, 0, 16, LEAST, MOST}) {
            calls.add(new Call("tree " + v, 0, x -> x.tree(v)));
        }
        calls.add(new Call("prove, a like b", BAD, x -> x.prove(5, 5)));
        for (int v : new int[] {0, 1, 6, 7}) {
            calls.add(new Call("alter " + v, BAD, x -> x.alter(v, 5)));
        }
        for (long v : new long[] {0, -1, Long.MIN_VALUE}) {
            calls.add(new Call("fraud, amount " + v, BAD, x -> x.fraud(0, 0, v)));
        }
    }

    private static void badOfSamples(List<Call> calls) {
        for (int v : new int[] {-1, 61, LEAST, MOST}) {
            calls.add(new Call("chance, n " + v, BAD, x -> x.chance(v, 0, 0, 0)));
            calls.add(new Call("chance, m " + v, BAD, x -> x.chance(60, v, 0, 0)));
            calls.add(new Call("chance, s " + v, BAD, x -> x.chance(60, 0, v, 0)));
            calls.add(new Call("chance, side " + v, BAD, x -> x.chance(60, 0, 0, v)));
            calls.add(new Call("samples, n " + v, BAD, x -> x.samples(v, 0, 1)));
            calls.add(new Call("samples, m " + v, BAD, x -> x.samples(60, v, 1)));
        }
        for (int v : new int[] {-1, 0, 1000001, LEAST, MOST}) {
            calls.add(new Call("samples, of " + v, BAD, x -> x.samples(60, 1, v)));
        }
        calls.add(new Call("chance, n 0", BAD, x -> x.chance(0, 0, 0, 0)));
        calls.add(new Call("samples, n 0", BAD, x -> x.samples(0, 0, 1)));
        calls.add(new Call("chance, side 2", BAD, x -> x.chance(60, 0, 0, 2)));
    }

    private static List<Call> none() {
        return List.of(
            new Call("follow, not begun", NONE, x -> x.follow(1, 0)),
            new Call("seek, not begun", NONE, x -> x.seek(1, 0, 60)),
            new Call("stored, not so many", NONE, x -> x.stored(0, 3)),
            new Call("stored, not begun", NONE, x -> x.stored(1, 0)),
            new Call("client 1, not begun", NONE, x -> x.client(1, 1)),
            new Call("client 1, refused nothing", NONE, x -> x.client(2, 1)),
            new Call("client 2, refused nothing", NONE, x -> x.client(2, 2)),
            new Call("compare, alike", NONE, x -> x.compare(0, 0)),
            new Call("compare, nothing given", NONE, x -> x.compare(0, 1)),
            new Call("blame, unlike nowhere", NONE, x -> x.blame(0, 0, 1)),
            new Call("blame, none below", NONE, x -> x.blame(2, 0, 2)),
            new Call("blame, not begun", NONE, x -> x.blame(1, 0, 2)),
            new Call("fraud, another top", NONE, x -> x.fraud(7, 0, 1)),
            new Call("samples, nothing missing", NONE, x -> x.samples(60, 0, 2)));
    }

    private static void answer(Due due, List<Call> calls) {
        for (Call call : calls) {
            due.is(call.name(), call.ask().applyAsLong(rich()), call.answer());
        }
    }

    private static void termsBad(Due due) {
        due.sentence(TERMS, "BAD: a number is none that there is, or outside what is told;");
        answer(due, bad());
    }

    private static void termsNone(Due due) {
        due.sentence(TERMS, "NONE: as told;");
        answer(due, none());
        due.is("give, it had none", rich().give(1, 0), NONE);
        due.is("give, it had one", rich().give(3, 0), 0);
    }

    /** All the room there is: 16 sets, 60 heads. */
    private static LightChecks full() {
        LightChecks x = new LightChecks();
        for (int i = 0; i < 16; i++) {
            x.set(weights(1), 0);
        }
        for (int i = 0; i < 60; i++) {
            x.head(2 * i, i, 0, 0, 0);
        }
        return x;
    }

    private static void termsFull(Due due) {
        due.sentence(TERMS, "FULL: no room.");
        LightChecks x = full();
        due.is("set", x.set(0, 0), FULL);
        due.is("head", x.head(0, 0, 0, 0, 0), FULL);
        due.is("sets are as many", x.told(0), 16);
        due.is("heads are as many", x.told(1), 60);
        for (int head = 0; head < 60; head++) {
            due.is("a giver has room for all, " + head, x.give(0, head), NONE);
        }
        x.start(0, 0);
        for (int head = 1; head < 20; head++) {
            x.sign(head, 0);
            due.is("a client has room always, " + head, x.follow(0, head), 1);
        }
    }

    private static void termsTheFirstInThisOrder(Due due) {
        due.sentence(TERMS, "Of several the first one in this order.");
        LightChecks x = full();
        due.is("set, BAD ahead of FULL", x.set(101, 0), BAD);
        due.is("set, more bits, ahead of FULL", x.set(0, -1), BAD);
        due.is("head, height, ahead of FULL", x.head(-1, 0, 0, 0, 0), BAD);
        due.is("head, set, ahead of FULL", x.head(0, 0, 16, 0, 0), BAD);
        due.is("head, next, ahead of FULL", x.head(0, 0, 0, -1, 0), BAD);
        due.is("follow, head, ahead of NONE", x.follow(0, 60), BAD);
        due.is("seek, giver, ahead of NONE", x.seek(0, 4, 0), BAD);
        due.is("seek, height, ahead of NONE", x.seek(0, 0, 100001), BAD);
        due.is("give, head, ahead of NONE", x.give(0, 60), BAD);
        due.is("stored, client, ahead of NONE", x.stored(4, 3), BAD);
        due.is("stored, k, with nothing stored", x.stored(0, -2), BAD);
        due.is("client, client, ahead of NONE", x.client(4, 1), BAD);
        due.is("client, what, with nothing refused", x.client(0, 3), BAD);
        due.is("compare, b, ahead of NONE", x.compare(0, 4), BAD);
        due.is("blame, client, ahead of NONE", x.blame(4, 0, 1), BAD);
        due.is("blame, a, ahead of NONE", x.blame(0, -1, 1), BAD);
        due.is("blame, b, ahead of NONE", x.blame(0, 0, 4), BAD);
        due.is("fraud, head, ahead of NONE", x.fraud(0, 60, 1), BAD);
        due.is("fraud, amount, ahead of NONE", x.fraud(0, 0, 0), BAD);
        due.is("samples, m, ahead of NONE", x.samples(60, -1, 2), BAD);
        due.is("samples, of, ahead of NONE", x.samples(60, 0, 1000001), BAD);
    }

    private static void termsWhatIsRefusedChangesNothing(Due due) {
        due.sentence(TERMS, "What is refused so changes nothing");
        List<Long> untouched = asked(rich());
        List<Call> calls = bad();
        calls.addAll(none());
        for (Call call : calls) {
            LightChecks x = rich();
            call.ask().applyAsLong(x);
            due.holds(call.name() + " changes nothing", asked(x).equals(untouched));
        }
        LightChecks full = full(), like = full();
        full.set(0, 0);
        full.head(100000, 0, 0, 0, 0);
        for (int head = 0; head < 60; head++) {
            due.is("what is there when it is full, " + head, full.digest(head), like.digest(head));
            due.is("who signed when it is full, " + head, full.sign(head, 0), 1);
            due.is("sets when it is full, " + head, full.overlaps(head, 15), 1);
        }
    }

    private static void termsWhatIsRefusedByANumber(Due due) {
        due.sentence(TERMS, "(what follow(), seek() refuse by a number, client() tells).");
        LightChecks x = rich();
        due.is("follow", x.follow(0, 6), -16);
        tells(due, "follow", x, 0, 1, 6, 100);
        keeps(due, "nothing was stored", x, 0, 0, 2, 3);
        due.is("seek", x.seek(0, 0, 30), -11);
        tells(due, "seek", x, 0, 2, 1, 30);
        keeps(due, "nothing was stored", x, 0, 0, 2, 3);
        due.is("BAD is no such number", x.follow(0, 60), BAD);
        tells(due, "as before", x, 0, 2, 1, 30);
        due.is("another client is as it was", x.client(3, 1), 1);
        due.is("another client's height is as it was", x.client(3, 2), 0);
    }
}
