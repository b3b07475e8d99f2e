import java.io.IOException;
import java.nio.file.Files;
import java.nio.file.Path;
import java.util.Arrays;
import java.util.Map;
import java.util.TreeMap;

/** The document's sections, by heading, and which of their words the tests have quoted. */
final class Document {
    private static final Path PLACE = Path.of("../shared/DOC.md");

    private final Map<String, String> texts = new TreeMap<>();
    private final Map<String, boolean[]> quoted = new TreeMap<>();

    Document() {
        if (!Files.isReadable(PLACE)) {
            System.out.println("no document at " + PLACE + ": quotes are not looked up");
            return;
        }
        try {
            for (String section : Files.readString(PLACE).split("(?m)^## ")) {
                String heading = section.lines().findFirst().orElse("");
                put(heading.split(":")[0], section.substring(heading.length()));
            }
        } catch (IOException e) {
            throw new IllegalStateException(e);
        }
    }

    private void put(String heading, String body) {
        // The signature of a call, and which calls go together, are the face's: FaceTest looks at that.
        String text = body.replaceAll("(?m)^Ahead of the calls.*$", "").replaceAll("`[^`]*`: ", "")
            .replaceAll("\\s+", " ").trim();
        texts.put(heading, text);
        quoted.put(heading, new boolean[text.length()]);
    }

    boolean isThere() {
        return !texts.isEmpty();
    }

    /** Whether a section has these words; they count as quoted then, wherever they stand in it. */
    boolean quote(String heading, String words) {
        String text = texts.getOrDefault(heading, "");
        boolean found = false;
        for (int at = text.indexOf(words); at >= 0; at = text.indexOf(words, at + 1)) {
            Arrays.fill(quoted.get(heading), at, at + words.length(), true);
            found = true;
        }
        return found;
    }

    /** What no test has quoted of a section; empty if that is no more than marks and gaps. */
    String unquoted(String heading) {
        String text = texts.getOrDefault(heading, "");
        StringBuilder left = new StringBuilder();
        for (int i = 0; i < text.length(); i++) {
            left.append(quoted.get(heading)[i] ? ' ' : text.charAt(i));
        }
        String rest = left.toString().replaceAll("\\s+", " ").trim();
        return rest.replaceAll("[^A-Za-z0-9]", "").isEmpty() ? "" : rest;
    }
}
