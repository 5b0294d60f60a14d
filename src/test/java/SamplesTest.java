/** Promises 23 and 24: chances as fractions, and how many samples are enough. */
public final class SamplesTest {
    private static final int BAD = -1, NONE = -2;

    public static void main(String[] args) {
        Due due = new Due("SamplesTest");
        knownChances(due);
        allChances(due);
        wrongChances(due);
        knownSamples(due);
        allSamples(due);
        wrongSamples(due);
        due.end();
    }

    private static void fraction(Due due, LightChecks x, int n, int m, int s, long above, long below) {
        String name = "chance " + n + " " + m + " " + s;
        due.is(name + " above", x.chance(n, m, s, 0), above);
        due.is(name + " below", x.chance(n, m, s, 1), below);
    }

    private static void knownChances(Due due) {
        LightChecks x = new LightChecks();
        fraction(due, x, 10, 2, 3, 7, 15);
        fraction(due, x, 10, 5, 1, 1, 2);
        fraction(due, x, 10, 0, 7, 1, 1);
        fraction(due, x, 10, 3, 0, 1, 1);
        fraction(due, x, 10, 10, 0, 1, 1);
        fraction(due, x, 10, 10, 1, 0, 1);
        fraction(due, x, 10, 1, 10, 0, 1);
        fraction(due, x, 10, 4, 6, 1, 210);
        fraction(due, x, 10, 4, 7, 0, 1);
        fraction(due, x, 1, 0, 1, 1, 1);
        fraction(due, x, 1, 1, 1, 0, 1);
        fraction(due, x, 60, 30, 30, 1, 118264581564861424L);
        fraction(due, x, 60, 1, 30, 1, 2);
    }

    private static void allChances(Due due) {
        PlainModel y = new PlainModel();
        for (int n = 1; n <= 60; n++) {
            for (int m = 0; m <= n; m++) {
                // Nothing is promised of an object's 513th call, so that each row has one of its own.
                LightChecks x = new LightChecks();
                for (int s = 0; s <= n; s++) {
                    fraction(due, x, n, m, s, y.chance(n, m, s, 0), y.chance(n, m, s, 1));
                }
            }
        }
    }

    private static void wrongChances(Due due) {
        LightChecks x = new LightChecks();
        int least = Integer.MIN_VALUE, most = Integer.MAX_VALUE;
        int[][] wrong = {{0, 0, 0, 0}, {-1, 0, 0, 0}, {61, 0, 0, 0}, {least, 0, 0, 0}, {most, 0, 0, 0}, {10, -1, 0, 0}, {10, 11, 0, 0},
            {10, least, 0, 0}, {10, most, 0, 0}, {10, 0, -1, 0}, {10, 0, 11, 0}, {10, 0, least, 0}, {10, 0, most, 0}, {10, 0, 0, -1},
            {10, 0, 0, 2}, {10, 0, 0, least}, {10, 0, 0, most}};
        for (int[] row : wrong) {
            due.is("chance " + java.util.Arrays.toString(row), x.chance(row[0], row[1], row[2], row[3]), BAD);
        }
    }

    private static void knownSamples(Due due) {
        LightChecks x = new LightChecks();
        due.is("nothing to look at", x.samples(10, 3, 1), 0);
        due.is("just a half", x.samples(10, 5, 2), 1);
        due.is("a bit below a half", x.samples(10, 5, 3), 2);
        due.is("all missing", x.samples(10, 10, 1000000), 1);
        due.is("just 1 by 210", x.samples(10, 4, 210), 6);
        due.is("less than 1 by 210", x.samples(10, 4, 211), 7);
        due.is("one missing of 60", x.samples(60, 1, 1000000), 60);
        due.is("nothing missing, 1", x.samples(60, 0, 1), 0);
        due.is("nothing missing, 2", x.samples(60, 0, 2), NONE);
        due.is("nothing missing, most", x.samples(1, 0, 1000000), NONE);
        due.is("one of one", x.samples(1, 1, 2), 1);
        due.is("half of 60", x.samples(60, 30, 1000000), 16);
    }

    private static void allSamples(Due due) {
        PlainModel y = new PlainModel();
        int[] some = {1, 2, 3, 10, 1000, 99999, 1000000};
        for (int n = 1; n <= 60; n++) {
            LightChecks x = new LightChecks();
            for (int m = 0; m <= n; m++) {
                for (int of : some) {
                    due.is("samples " + n + " " + m + " " + of, x.samples(n, m, of), y.samples(n, m, of));
                }
            }
        }
    }

    private static void wrongSamples(Due due) {
        LightChecks x = new LightChecks();
        int least = Integer.MIN_VALUE, most = Integer.MAX_VALUE;
        int[][] wrong = {{0, 0, 1}, {-1, 0, 1}, {61, 0, 1}, {least, 0, 1}, {most, 0, 1}, {10, -1, 1}, {10, 11, 1}, {10, least, 1},
            {10, most, 1}, {10, 1, 0}, {10, 1, -1}, {10, 1, 1000001}, {10, 1, least}, {10, 1, most}};
        for (int[] row : wrong) {
            due.is("samples " + java.util.Arrays.toString(row), x.samples(row[0], row[1], row[2]), BAD);
        }
    }
}
