/** Promises 23 and 24 for all pieces that there are, against the plain model; their edges are in SamplesEdges. */
public final class SamplesTest {
    public static void main(String[] args) {
        Due due = new Due("SamplesTest");
        allChances(due);
        allSamples(due);
        due.end();
    }

    private static void allChances(Due due) {
        PlainModel y = new PlainModel();
        for (int n = 1; n <= 60; n++) {
            for (int m = 0; m <= n; m++) {
                // Nothing is promised of an object's 513th call, so that each row has one of its own.
                LightChecks x = new LightChecks();
                for (int s = 0; s <= n; s++) {
                    SamplesEdges.fraction(due, x, n, m, s, y.chance(n, m, s, 0), y.chance(n, m, s, 1));
                }
            }
        }
    }

    private static void allSamples(Due due) {
        PlainModel y = new PlainModel();
        int[] some = {1, 2, 3, 10, 1000, 99999, 1000000};
        for (int n = 1; n <= 60; n++) {
            LightChecks x = new LightChecks();
            for (int m = 0; m <= n; m++) {
                for (int of : some) {
                    due.is("samples " + n + " " + m + " " + of, x.samples(n, m, of), y.samples(n, m, of));
                }
            }
        }
    }
}
