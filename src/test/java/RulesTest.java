import java.io.IOException;
import java.nio.file.Files;
import java.nio.file.Path;
import java.util.List;
import java.util.regex.Matcher;
import java.util.regex.Pattern;

/** What of shared/LANGUAGE.md can be seen in the text of the class. */
final class RulesTest {
    private static final String[] NOT_THERE = {
        "->", "::", "\\bcatch\\b", "\\btry\\b", "\\bfinally\\b", "\\bsynchronized\\b", "\\bassert\\b", "\\bwhile\\b",
        "static \\{", "Exact\\(", "\\bSystem\\.(?!arraycopy)", "\\bMath\\.(?!min|max|abs)",
        "Arrays\\.(?!fill|copyOf)", "\" \\+", "\\+ \"", "\\bvar\\b", "\\brecord\\b", "\\bpackage\\b", "[^\\x00-\\x7f]",
    };

    public static void main(String[] args) throws IOException {
        List<String> lines = Files.readAllLines(Path.of("src/main/java/Morphichall.java"));
        String text = String.join("\n", lines);
        for (String none : NOT_THERE) {
            Matcher found = Pattern.compile(none).matcher(text.replaceAll("/\\*\\*[^/]*\\*/", ""));
            Check.due("rules 1 to 13: " + none, found.find() ? found.group() : "", "");
        }
        imports(lines);
        throwsOnlyItsOwn(text);
        lengthsOfMethods(lines);
        Check.end("RulesTest");
    }

    private static void imports(List<String> lines) {
        List<String> found = lines.stream().filter(line -> line.startsWith("import")).toList();
        Check.due("rule 4: imports", found,
                List.of("import java.util.Arrays;", "import java.util.NoSuchElementException;"));
    }

    private static void throwsOnlyItsOwn(String text) {
        Matcher thrown = Pattern.compile("throw\\b.*").matcher(text);
        while (thrown.find()) {
            Check.due("rule 6: " + thrown.group(), thrown.group().matches("throw new (IllegalState|IllegalArgument"
                    + "|IndexOutOfBounds|UnsupportedOperation|NoSuchElement)Exception\\(\"[a-z A-Z0-9,]+\"\\);"), true);
        }
    }

    /** A method begins with a line that ends with a brace and has a name with brackets, four or eight blanks in. */
    private static void lengthsOfMethods(List<String> lines) {
        Pattern head = Pattern.compile("^(    |        )[a-zA-Z].*\\(.*");
        for (int from = 0; from < lines.size(); from++) {
            Matcher begin = head.matcher(lines.get(from));
            if (!begin.matches() || lines.get(from).matches("^ +(if|for|return|throw|else).*|.*;$")) {
                continue;
            }
            String last = begin.group(1) + "}";
            int to = from;
            while (to < lines.size() && !lines.get(to).equals(last)) {
                to++;
            }
            Check.due("rule 11: lines of " + lines.get(from).trim(), to - from < 60, true);
            Check.due("rule 11: parameters of " + lines.get(from).trim(),
                    lines.get(from).replaceAll("[^,]", "").length() < 7, true);
        }
    }
}
