import java.io.IOException;
import java.nio.file.Files;
import java.nio.file.Path;
import java.util.TreeMap;
import java.util.TreeSet;

/** The document's headings and their texts, so that a test can only name a sentence that stands there. */
final class Document {
    private final TreeMap<String, String> parts = new TreeMap<>();
    private final TreeSet<String> named = new TreeSet<>();

    /** With the project's root, beside which ../shared lies. */
    Document(String root) throws IOException {
        String text = Files.readString(Path.of(root).resolve("../shared/DOC.md"));
        for (String part : text.split("\n## ")) {
            String[] lines = part.split("\n", 2);
            add(lines[0].replaceAll(":.*", ""), lines.length > 1 ? lines[1] : "");
        }
    }

    private void add(String heading, String text) {
        if (!heading.equals("Terms")) {
            parts.put(heading, plain(text));
            return;
        }
        for (String term : text.trim().split("\n(?=\\d\\. )")) {
            parts.put("Terms " + term.charAt(0), plain(term));
        }
    }

    private static String plain(String text) {
        return text.replaceAll("\\s+", " ");
    }

    boolean says(String heading, String sentence) {
        named.add(heading);
        return parts.getOrDefault(heading, "").contains(plain(sentence));
    }

    /** Headings of one kind of which no sentence was asked for. */
    TreeSet<String> notNamed(String kind) {
        TreeSet<String> rest = new TreeSet<>();
        for (String heading : parts.keySet()) {
            if (heading.startsWith(kind) && !named.contains(heading)) {
                rest.add(heading);
            }
        }
        return rest;
    }
}
