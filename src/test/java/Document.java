import java.io.IOException;
import java.nio.file.Files;
import java.nio.file.Path;
import java.util.LinkedHashMap;
import java.util.Map;

/** The words of ../shared/DOC.md by sections, and which of them no test has claimed to hold yet. */
final class Document {
    private final Map<String, String> words = new LinkedHashMap<>();
    private final Map<String, boolean[]> claimed = new LinkedHashMap<>();

    Document(Path file) throws IOException {
        for (String part : Files.readString(file).split("(?m)^## ")) {
            String[] lines = part.split("\n", 2);
            String name = lines[0].replaceAll(":.*", "").trim();
            String text = plain(name, lines.length < 2 ? "" : lines[1]);
            words.put(name, text);
            claimed.put(name, new boolean[text.length()]);
        }
    }

    /** Without the marks of the page, the calls' signatures (FaceTest has these), and the lines on the interface's remarks. */
    private static String plain(String name, String text) {
        String bare = text.replaceAll("(?m)^```.*$", " ").replaceAll("(?m)^Ahead of the calls.*$", " ").replaceAll("======== \\d", " ");
        return (name.startsWith("Promise") ? bare.replaceFirst("`[^`]*`: ", "") : bare).replaceAll("\\s+", " ").trim();
    }

    /** Whether the section has these words; they are claimed then wherever it has them. */
    boolean claim(String section, String some) {
        String all = words.getOrDefault(section, "");
        int at = all.indexOf(some);
        boolean found = at >= 0 && !some.isEmpty();
        while (at >= 0 && !some.isEmpty()) {
            for (int i = at; i < at + some.length(); i++) {
                claimed.get(section)[i] = true;
            }
            at = all.indexOf(some, at + 1);
        }
        return found;
    }

    /** What nobody has claimed of a section; a section that there is not is missing as a whole. */
    String unclaimed(String section) {
        if (!words.containsKey(section)) {
            return "(no such section)";
        }
        StringBuilder left = new StringBuilder();
        for (int i = 0; i < claimed.get(section).length; i++) {
            left.append(claimed.get(section)[i] ? ' ' : words.get(section).charAt(i));
        }
        return left.toString().replaceAll("[\\s.,;:]+", " ").trim();
    }
}
