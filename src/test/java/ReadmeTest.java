import java.io.IOException;
import java.nio.charset.StandardCharsets;
import java.nio.file.Files;
import java.nio.file.Path;
import java.util.ArrayList;
import java.util.Comparator;
import java.util.List;
import java.util.regex.Matcher;
import java.util.regex.Pattern;
import java.util.stream.Stream;

/** What README.md tells is so: its program prints what it says, its commands run, and what it names is there. */
final class ReadmeTest {
    private static final Path PROJECT = Path.of("").toAbsolutePath();

    public static void main(String[] args) throws IOException, InterruptedException {
        String page = Files.readString(Path.of("README.md"));
        Path room = Files.createTempDirectory("readme");
        try {
            tryOut(page, layOut(room));
        } finally {
            clear(room);
        }
        lookForNames(page);
        lookForTests(page);
        Check.end("ReadmeTest");
    }

    /** A project's directory that leads to this one, in which a command may write. */
    private static Path layOut(Path room) throws IOException {
        Path project = Files.createDirectory(room.resolve("project"));
        Files.createSymbolicLink(project.resolve("src"), PROJECT.resolve("src"));
        Files.createSymbolicLink(room.resolve("shared"), PROJECT.resolve("../shared").normalize());
        return project;
    }

    private static void tryOut(String page, Path project) throws IOException, InterruptedException {
        List<String> programs = blocks(page, "java");
        Check.due("how many programs there are", programs.size(), 1);
        Files.writeString(project.resolve("Example.java"), programs.get(0));
        int commands = 0;
        for (String block : blocks(page, "sh")) {
            if (block.contains(".ci/run")) {
                Check.due("it can be run: .ci/run", Files.isExecutable(PROJECT.resolve(".ci/run")), true);
            } else {
                String printed = runBlock(block, project);
                if (block.contains("Example")) {
                    Check.due("what the example prints", printed, promised(programs.get(0)));
                }
            }
            commands++;
        }
        Check.due("how many blocks of commands there are", commands, 5);
    }

    private static List<String> blocks(String page, String language) {
        List<String> out = new ArrayList<>();
        Matcher found = Pattern.compile("(?s)```" + language + "\n(.*?)```").matcher(page);
        while (found.find()) {
            out.add(found.group(1));
        }
        return out;
    }

    private static String runBlock(String block, Path project) throws IOException, InterruptedException {
        Path printed = project.resolve("printed");
        int code = new ProcessBuilder("sh", "-e", "-c", block).directory(project.toFile())
                .redirectErrorStream(true).redirectOutput(printed.toFile()).start().waitFor();
        String text = Files.readString(printed, StandardCharsets.UTF_8);
        Check.due("exit code of " + block + text, code, 0);
        return text;
    }

    /** What stands behind each line that prints. */
    private static String promised(String program) {
        StringBuilder out = new StringBuilder();
        for (String line : program.split("\n")) {
            if (line.contains("println(")) {
                out.append(line.substring(line.lastIndexOf("// ") + 3)).append('\n');
            }
        }
        return out.toString();
    }

    private static void lookForNames(String page) throws IOException {
        Matcher found = Pattern.compile("`([A-Za-z./*]+)`").matcher(page.replaceAll("(?s)```.*?```", ""));
        while (found.find()) {
            String name = found.group(1);
            if (name.matches("[A-Z][a-z]+[A-Z][A-Za-z]+|Doc|View|Refusals") && !name.equals("Example.java")) {
                Check.due("a class of the tests: " + name, Files.exists(inTests(name)), true);
            } else if (name.contains("/") && !name.contains("*")) {
                Check.due("a file: " + name, Files.exists(Path.of(name)), true);
            }
        }
    }

    private static Path inTests(String name) {
        return Path.of("src/test/java", name + ".java");
    }

    private static void lookForTests(String page) throws IOException {
        try (Stream<Path> files = Files.list(Path.of("src/test/java"))) {
            for (Path file : files.toList()) {
                String name = file.getFileName().toString().replace(".java", "");
                if (name.matches(".*(Test|Bounds)") && !name.equals("Bounds")) {
                    Check.due("the page names " + name, page.contains("`" + name + "`"), true);
                }
            }
        }
    }

    private static void clear(Path room) throws IOException {
        try (Stream<Path> files = Files.walk(room)) {
            for (Path file : files.sorted(Comparator.reverseOrder()).toList()) {
                Files.delete(file);
            }
        }
    }
}
