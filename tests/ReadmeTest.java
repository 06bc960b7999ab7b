import java.io.IOException;
import java.lang.reflect.Method;
import java.lang.reflect.Modifier;
import java.nio.file.Files;
import java.nio.file.Path;
import java.util.ArrayList;
import java.util.List;
import java.util.Set;
import java.util.TreeSet;
import java.util.regex.Matcher;
import java.util.regex.Pattern;
import java.util.stream.Stream;

/** What README.md shows is right: its example and its commands, done as they are written, and its tables. */
public final class ReadmeTest {
    private static final Path HERE = Path.of("");

    public static void main(String[] args) throws IOException, InterruptedException {
        String readme = Files.readString(HERE.resolve("README.md"));
        commands(readme);
        calls(readme);
        tests(readme);
        Check.end("ReadmeTest");
    }

    /** The commands leave files behind, so that they are done in a copy of the project. */
    private static void commands(String readme) throws IOException, InterruptedException {
        Path copy = Files.createTempDirectory("rigdiary");
        try {
            copy(HERE.resolve("src"), copy.resolve("src"));
            copy(HERE.resolve("tests"), copy.resolve("tests"));
            Files.writeString(copy.resolve("Example.java"), only(blocks(readme, "java")));
            List<String> shown = blocks(readme, "sh");
            Check.compare(2, shown.size());
            Check.compare(only(blocks(readme, "text")), done(shown.get(0), copy));
            String last = done(shown.get(shown.size() - 1), copy);
            Check.compare(true, last.endsWith(" 0 not as due\n"));
        } finally {
            remove(copy);
        }
    }

    private static List<String> blocks(String readme, String kind) {
        List<String> all = new ArrayList<>();
        Matcher block = Pattern.compile("^```" + kind + "\n(.*?)^```$", Pattern.MULTILINE | Pattern.DOTALL)
                .matcher(readme);
        while (block.find()) {
            all.add(block.group(1));
        }
        return all;
    }

    private static String only(List<String> blocks) {
        Check.compare(1, blocks.size());
        return String.join("", blocks);
    }

    private static String done(String commands, Path where) throws IOException, InterruptedException {
        Process shell = new ProcessBuilder("sh", "-e", "-c", commands)
                .directory(where.toFile())
                .redirectError(ProcessBuilder.Redirect.INHERIT)
                .start();
        String said = new String(shell.getInputStream().readAllBytes());
        Check.compare(0, shell.waitFor());
        return said.replace("\r\n", "\n");
    }

    /** Each call of the face has a row of its own, with as many arguments as it takes. */
    private static void calls(String readme) {
        Set<String> due = new TreeSet<>();
        for (Method m : Rigdiary.class.getDeclaredMethods()) {
            if (Modifier.isPublic(m.getModifiers())) {
                due.add(m.getName() + " with " + m.getParameterCount());
            }
        }
        Set<String> got = new TreeSet<>();
        Matcher row = Pattern.compile("^\\| `(\\w+)\\(([\\w, ]*)\\)` \\|", Pattern.MULTILINE).matcher(readme);
        while (row.find()) {
            String arguments = row.group(2);
            got.add(row.group(1) + " with " + (arguments.isEmpty() ? 0 : arguments.split(", ").length));
        }
        Check.compare(due, got);
    }

    private static void tests(String readme) throws IOException {
        Set<String> due = new TreeSet<>();
        for (Path file : under(HERE.resolve("tests"))) {
            String name = file.getFileName().toString();
            if (name.endsWith("Test.java")) {
                due.add(name.replace(".java", ""));
            }
        }
        Set<String> got = new TreeSet<>();
        Matcher row = Pattern.compile("^\\| `(\\w+Test)` \\|", Pattern.MULTILINE).matcher(readme);
        while (row.find()) {
            got.add(row.group(1));
        }
        Check.compare(due, got);
    }

    /** A directory and all that is in it, the directory ahead of what it holds. */
    private static List<Path> under(Path directory) throws IOException {
        try (Stream<Path> all = Files.walk(directory)) {
            return all.toList();
        }
    }

    private static void copy(Path from, Path to) throws IOException {
        for (Path file : under(from)) {
            Path target = to.resolve(from.relativize(file).toString());
            if (Files.isDirectory(file)) {
                Files.createDirectories(target);
            } else {
                Files.copy(file, target);
            }
        }
    }

    private static void remove(Path directory) throws IOException {
        List<Path> all = under(directory);
        for (int i = all.size() - 1; i >= 0; i--) {
            Files.delete(all.get(i));
        }
    }
}
