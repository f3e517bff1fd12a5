import java.io.IOException;
import java.io.UncheckedIOException;
import java.nio.file.Files;
import java.nio.file.Path;
import java.util.ArrayList;
import java.util.LinkedHashMap;
import java.util.List;
import java.util.Map;

/** The document by its sections, so that a test quotes the sentence that it is of, and none is left out. */
final class Document {
    private static final Path FILE = Path.of("../shared/DOC.md");

    private final Map<String, String> unquoted = new LinkedHashMap<>();

    Document() {
        for (String part : textOf(FILE).split("(?m)^## ")) {
            int end = part.indexOf('\n');
            String heading = part.substring(0, end);
            String body = part.substring(end);
            if (heading.equals("What it is")) {
                unquoted.put(heading, inOneLine(body));
            } else if (heading.equals("Terms")) {
                addTerms(body);
            } else if (heading.startsWith("Promise ")) {
                unquoted.put(heading, wordsOfPromise(body));
            }
        }
    }

    private static String textOf(Path file) {
        try {
            return Files.readString(file);
        } catch (IOException e) {
            throw new UncheckedIOException(e);
        }
    }

    private static String inOneLine(String text) {
        return text.replaceAll("\\s+", " ").strip();
    }

    /** Each paragraph by its first word; what the interface says in comments is nothing that a call does. */
    private void addTerms(String body) {
        for (String paragraph : body.strip().split("\n\n")) {
            if (!paragraph.startsWith("Ahead of the calls ")) {
                String[] parts = paragraph.split("\\. ", 2);
                unquoted.put(parts[0], inOneLine(parts[1]));
            }
        }
    }

    /** Without the signature, and without parameters of which no values are told. */
    private static String wordsOfPromise(String body) {
        StringBuilder words = new StringBuilder();
        for (String line : body.strip().replaceFirst("^`[^`]*`: ", "").split("\n")) {
            if (!line.startsWith("- ") || line.matches(".*[0-9'].*")) {
                words.append(line).append(' ');
            }
        }
        return inOneLine(words.toString());
    }

    /** Whether the section has these words, not quoted as yet; they are quoted then. */
    boolean quote(String section, String words) {
        String left = unquoted.getOrDefault(section, "");
        int place = left.indexOf(words);
        if (place < 0) {
            return false;
        }
        unquoted.put(section, left.substring(0, place) + "|" + left.substring(place + words.length()));
        return true;
    }

    /** Those of the sections of which words are left that were not quoted, with these. */
    List<String> leftOf(String... sections) {
        List<String> left = new ArrayList<>();
        for (String section : sections) {
            String words = unquoted.getOrDefault(section, "no such section");
            if (words.matches(".*[A-Za-z0-9].*")) {
                left.add(section + ": " + words);
            }
        }
        return left;
    }

    int countSections() {
        return unquoted.size();
    }
}
