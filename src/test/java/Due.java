import java.util.ArrayList;
import java.util.List;

/** Counts the answers that are not as due, prints them, and ends the program with 1 if there was one. */
final class Due {
    /** Words of the document that a test holds, and how many answers it asked for that. */
    static final class Held {
        final String section;
        final String words;
        int asked = 0;

        Held(String section, String words) {
            this.section = section;
            this.words = words;
        }

        @Override
        public String toString() {
            return section + ", '" + words + "'";
        }
    }

    final List<Held> held = new ArrayList<>();
    private final String test;
    private int asked = 0;
    private int wrong = 0;

    Due(String test) {
        this.test = test;
    }

    /** The answers that are asked from here on hold these words of a section of the document. */
    void sentence(String section, String words) {
        held.add(new Held(section, words));
    }

    void is(String call, long got, long want) {
        asked++;
        Held last = held.isEmpty() ? null : held.get(held.size() - 1);
        if (last != null) {
            last.asked++;
        }
        if (got != want) {
            wrong++;
            System.out.println(test + ": " + (last == null ? "" : last + ": ") + call + " answered " + got + ", due is " + want);
        }
    }

    void holds(String what, boolean so) {
        is(what, so ? 1 : 0, 1);
    }

    void end() {
        System.out.println(test + ": " + asked + " answers, " + wrong + " not as due");
        if (wrong != 0) {
            System.exit(1);
        }
    }
}
