/** The edges of 'Terms' on chances, and of promises 23 and 24. */
final class SamplesEdges extends Worlds {
    private static final String TERMS = "Terms";
    // C(60, 30), the greatest number of choices that there is here.
    private static final long MOST_CHOICES = 118264581564861424L;

    static void all(Due due) {
        termsPieces1To60(due);
        termsChoicesByChoices(due);
        termsLowestTerms(due);
        termsNoughtIs0By1(due);
        promise23Sides(due);
        promise23Bad(due);
        promise24LeastS(due);
        promise24None(due);
        promise24Bad(due);
    }

    static void fraction(Due due, LightChecks x, int n, int m, int s, long above, long below) {
        String name = "n " + n + ", m " + m + ", s " + s;
        due.is(name + ", above", x.chance(n, m, s, 0), above);
        due.is(name + ", below", x.chance(n, m, s, 1), below);
    }

    private static void termsPieces1To60(Due due) {
        due.sentence(TERMS, "CHANCE: n PIECES (1 .. 60), m of them missing, s different ones are looked at:");
        LightChecks x = new LightChecks();
        fraction(due, x, 0, 0, 0, BAD, BAD);
        fraction(due, x, 1, 0, 0, 1, 1);
        fraction(due, x, 1, 1, 0, 1, 1);
        fraction(due, x, 1, 0, 1, 1, 1);
        fraction(due, x, 1, 1, 1, 0, 1);
        fraction(due, x, 60, 0, 60, 1, 1);
        fraction(due, x, 60, 60, 60, 0, 1);
        fraction(due, x, 61, 0, 0, BAD, BAD);
        fraction(due, x, 61, 1, 1, BAD, BAD);
    }

    private static void termsChoicesByChoices(Due due) {
        due.sentence(TERMS, "C(n - m, s) by C(n, s),");
        LightChecks x = new LightChecks();
        fraction(due, x, 10, 2, 3, 7, 15);
        fraction(due, x, 10, 4, 6, 1, 210);
        fraction(due, x, 60, 30, 30, 1, MOST_CHOICES);
        fraction(due, x, 60, 29, 30, 1, MOST_CHOICES / 31);
        fraction(due, x, 60, 1, 1, 59, 60);
        fraction(due, x, 60, 59, 1, 1, 60);
        fraction(due, x, 60, 1, 59, 1, 60);
    }

    private static void termsLowestTerms(Due due) {
        due.sentence(TERMS, "as a fraction in lowest terms");
        LightChecks x = new LightChecks();
        fraction(due, x, 10, 5, 1, 1, 2);
        fraction(due, x, 60, 1, 30, 1, 2);
        fraction(due, x, 60, 0, 30, 1, 1);
        fraction(due, x, 60, 30, 0, 1, 1);
        fraction(due, x, 10, 10, 0, 1, 1);
        fraction(due, x, 60, 2, 30, 29, 118);
    }

    private static void termsNoughtIs0By1(Due due) {
        due.sentence(TERMS, "(0 is 0 by 1).");
        LightChecks x = new LightChecks();
        fraction(due, x, 10, 4, 6, 1, 210);
        fraction(due, x, 10, 4, 7, 0, 1);
        fraction(due, x, 10, 10, 1, 0, 1);
        fraction(due, x, 10, 1, 10, 0, 1);
        fraction(due, x, 60, 31, 30, 0, 1);
    }

    private static void promise23Sides(Due due) {
        due.sentence("Promise 23", "CHANCE: side 0 what is above, 1 what is below.");
        LightChecks x = new LightChecks();
        due.is("above", x.chance(10, 2, 3, 0), 7);
        due.is("below", x.chance(10, 2, 3, 1), 15);
        due.is("0 above", x.chance(10, 9, 2, 0), 0);
        due.is("1 below", x.chance(10, 9, 2, 1), 1);
    }

    private static void promise23Bad(Due due) {
        due.sentence("Promise 23", "BAD: n, m (0 .. n), s (0 .. n), side.");
        LightChecks x = new LightChecks();
        for (int wrong : new int[] {0, -1, 61, LEAST, MOST}) {
            due.is("n " + wrong, x.chance(wrong, 0, 0, 0), BAD);
        }
        for (int wrong : new int[] {-1, 11, 60, LEAST, MOST}) {
            due.is("m " + wrong, x.chance(10, wrong, 0, 0), BAD);
            due.is("s " + wrong, x.chance(10, 0, wrong, 1), BAD);
        }
        for (int wrong : new int[] {-1, 2, LEAST, MOST}) {
            due.is("side " + wrong, x.chance(10, 0, 0, wrong), BAD);
        }
        due.is("m 0 and s 0", x.chance(10, 0, 0, 0), 1);
        due.is("m n and s n", x.chance(10, 10, 10, 1), 1);
    }

    private static void promise24LeastS(Due due) {
        due.sentence("Promise 24", "The least s (0 .. n) whose CHANCE times of is 1 at most (of 1 .. 1000000);");
        LightChecks x = new LightChecks();
        due.is("of 1, none is looked at", x.samples(60, 30, 1), 0);
        due.is("of 1, nothing missing", x.samples(1, 0, 1), 0);
        due.is("1 by 2 times 2 is just 1", x.samples(10, 5, 2), 1);
        due.is("1 by 2 times 3 is above it", x.samples(10, 5, 3), 2);
        due.is("1 by 210 times 210 is just 1", x.samples(10, 4, 210), 6);
        due.is("1 by 210 times 211 is above it", x.samples(10, 4, 211), 7);
        due.is("1 by 60 times 60 is just 1", x.samples(60, 1, 60), 59);
        due.is("s is n", x.samples(60, 1, 61), 60);
        due.is("a product that no long holds", x.samples(60, 1, 1000000), 60);
        due.is("the most, half of 60 missing", x.samples(60, 30, 1000000), 16);
        due.is("the most, all missing", x.samples(60, 60, 1000000), 1);
        due.is("one piece, and it is missing", x.samples(1, 1, 2), 1);
    }

    private static void promise24None(Due due) {
        due.sentence("Promise 24", "NONE: there is none.");
        LightChecks x = new LightChecks();
        for (int n : new int[] {1, 2, 59, 60}) {
            due.is("nothing missing of " + n + ", of 2", x.samples(n, 0, 2), NONE);
            due.is("nothing missing of " + n + ", of 1000000", x.samples(n, 0, 1000000), NONE);
            due.is("nothing missing of " + n + ", of 1", x.samples(n, 0, 1), 0);
            due.is("one missing of " + n, x.samples(n, 1, 1000000), n);
        }
    }

    private static void promise24Bad(Due due) {
        due.sentence("Promise 24", "BAD.");
        LightChecks x = new LightChecks();
        for (int wrong : new int[] {0, -1, 61, LEAST, MOST}) {
            due.is("n " + wrong, x.samples(wrong, 0, 1), BAD);
        }
        for (int wrong : new int[] {-1, 11, 60, LEAST, MOST}) {
            due.is("m " + wrong, x.samples(10, wrong, 1), BAD);
        }
        for (int wrong : new int[] {0, -1, 1000001, LEAST, MOST}) {
            due.is("of " + wrong, x.samples(10, 1, wrong), BAD);
            due.is("of " + wrong + ", ahead of NONE", x.samples(10, 0, wrong), BAD);
        }
        due.is("of 1000000", x.samples(10, 1, 1000000), 10);
    }
}
