import java.io.IOException;
import java.io.UncheckedIOException;
import java.nio.file.Files;
import java.nio.file.Path;
import java.util.ArrayList;
import java.util.LinkedHashMap;
import java.util.LinkedHashSet;
import java.util.List;
import java.util.Map;
import java.util.Set;

/** The document, cut into sentences; a test names the one that it looks at, and none may be left over. */
final class Doc {
    private static final Map<String, List<String>> SECTIONS = new LinkedHashMap<>();
    private static final Map<String, String> TITLES = new LinkedHashMap<>();
    private static final Set<String> LOOKED_AT = new LinkedHashSet<>();

    static {
        try {
            cutIntoSections(Files.readString(Path.of("../shared/DOC.md")));
        } catch (IOException e) {
            throw new UncheckedIOException(e);
        }
    }

    private Doc() {
    }

    private static void cutIntoSections(String text) {
        for (String part : text.replace("<h2>Exceptions</h2>", "## Exceptions\n").split("(?m)^## ")) {
            int end = part.indexOf('\n');
            String[] head = part.substring(0, end).split(": ");
            if (!head[0].matches("What it is|Terms|Exceptions|Promise [0-9]+")) {
                continue;
            }
            TITLES.put(head[0], head[head.length - 1]);
            SECTIONS.put(head[0], sentences(head[0], part.substring(end)));
        }
    }

    /** In a promise each paragraph and each argument's line is one; elsewhere each ends with its full stop. */
    private static List<String> sentences(String section, String text) {
        List<String> out = new ArrayList<>();
        String plain = text.replaceAll("<h2>.*?</h2>", "");
        String cut = section.startsWith("Promise") ? "\n\n+|\n(?=- )" : "\n\n+|(?<=\\.)\\s+";
        for (String sentence : plain.split(cut)) {
            String line = sentence.trim().replaceAll("\\s+", " ").replaceFirst("^`[^`]*[)a-z]`: ", "");
            if (!line.isEmpty()) {
                out.add(line);
            }
        }
        return out;
    }

    static String titleOf(String section) {
        return TITLES.get(section);
    }

    static List<String> allOf(String section) {
        return SECTIONS.get(section);
    }

    /** The first sentence of the section that has these words. */
    static String sentence(String section, String words) {
        return SECTIONS.getOrDefault(section, List.of()).stream().filter(each -> each.contains(words)).findFirst()
                .orElse("");
    }

    /** Every sentence of the section that has these words is looked at; there must be one. */
    static void lookAt(String section, String words) {
        boolean found = false;
        for (String sentence : SECTIONS.getOrDefault(section, List.of())) {
            if (sentence.contains(words)) {
                LOOKED_AT.add(section + ": " + sentence);
                found = true;
            }
        }
        Check.due("the document has, in " + section + ", " + words, found, true);
    }

    static List<String> leftOver() {
        List<String> out = new ArrayList<>();
        SECTIONS.forEach((section, sentences) -> sentences.forEach(sentence -> {
            if (!LOOKED_AT.contains(section + ": " + sentence)) {
                out.add(section + ": " + sentence);
            }
        }));
        return out;
    }
}
