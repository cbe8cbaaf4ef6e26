import java.io.IOException;
import java.lang.reflect.Method;
import java.lang.reflect.Modifier;
import java.nio.charset.StandardCharsets;
import java.nio.file.Files;
import java.nio.file.Path;
import java.util.ArrayList;
import java.util.Comparator;
import java.util.List;
import java.util.Set;
import java.util.TreeSet;
import java.util.regex.Matcher;
import java.util.regex.Pattern;
import java.util.stream.Stream;

/**
 * README.md holds: its program prints what it says, its commands run, its lists are whole.
 *
 * The command for all tests is left to .ci/run, for it would run this test again.
 */
public final class ReadmeTest {
    private static final Check C = new Check("ReadmeTest");
    private static final Path README = Path.of("README.md");

    public static void main(String[] args) throws Exception {
        C.holds("README.md is there", Files.isRegularFile(README));
        if (Files.isRegularFile(README)) {
            List<String> lines = Files.readAllLines(README, StandardCharsets.UTF_8);
            Path folder = Files.createTempDirectory("readme");
            try {
                commands(lines, folder);
            } finally {
                remove(folder);
            }
            calls(section(lines, "## Use"));
            tests(section(lines, "## Tests"));
        }
        C.close();
    }

    private static void commands(List<String> lines, Path folder) throws Exception {
        copy(Path.of("src"), folder.resolve("src"));
        List<String> use = section(lines, "## Use");
        Files.writeString(folder.resolve("Example.java"), fenced(use, "java"));
        C.same("what the program prints", run(folder, indented(use).get(0)), fenced(use, "text"));
        List<String> told = indented(section(lines, "## Tests"));
        C.same("the command for all tests", told.get(0), "./run-tests\n");
        C.holds("it can be run", Files.isExecutable(Path.of("run-tests")));
        C.holds("one test by itself", run(folder, told.get(1)).matches("WorthTest: [0-9]+ answers, 0 wrong\n"));
    }

    private static void calls(List<String> use) {
        Set<String> face = new TreeSet<>();
        for (Method m : MonthPush.class.getDeclaredMethods()) {
            if (Modifier.isPublic(m.getModifiers())) {
                face.add(m.getName());
            }
        }
        Set<String> listed = new TreeSet<>();
        for (String row : use) {
            if (row.matches("\\| .* \\| `.*` \\|")) {
                listed.addAll(named(row.substring(row.lastIndexOf("| `"))));
            }
        }
        C.same("the calls", listed.toString(), face.toString());
    }

    private static List<String> named(String cell) {
        List<String> names = new ArrayList<>();
        Matcher m = Pattern.compile("`([a-z]+)`").matcher(cell);
        while (m.find()) {
            names.add(m.group(1));
        }
        return names;
    }

    private static void tests(List<String> lines) throws IOException {
        Set<String> there = new TreeSet<>();
        try (Stream<Path> files = Files.list(Path.of("src/test/java"))) {
            files.map(f -> f.getFileName().toString()).filter(n -> n.endsWith("Test.java"))
                .forEach(n -> there.add(n.substring(0, n.length() - 5)));
        }
        Set<String> listed = new TreeSet<>();
        for (String row : lines) {
            if (row.matches("\\| [A-Za-z]+Test \\| .*")) {
                listed.add(row.split(" ")[1]);
            }
        }
        C.same("the tests", listed.toString(), there.toString());
    }

    // ---------------------------------------------------------------- parts of the page

    private static List<String> section(List<String> lines, String head) {
        List<String> found = new ArrayList<>();
        boolean inside = false;
        for (String line : lines) {
            if (line.startsWith("## ")) {
                inside = line.equals(head);
            } else if (inside) {
                found.add(line);
            }
        }
        return found;
    }

    private static String fenced(List<String> lines, String language) {
        StringBuilder found = new StringBuilder();
        boolean inside = false;
        for (String line : lines) {
            if (line.startsWith("```")) {
                inside = line.equals("```" + language);
            } else if (inside) {
                found.append(line).append('\n');
            }
        }
        return found.toString();
    }

    /** Lines of commands that stand together, as one; what is fenced is none. */
    private static List<String> indented(List<String> lines) {
        List<String> found = new ArrayList<>();
        boolean fenced = false;
        boolean before = false;
        for (String line : lines) {
            fenced ^= line.startsWith("```");
            boolean command = !fenced && line.startsWith("    ");
            if (command && before) {
                found.set(found.size() - 1, found.get(found.size() - 1) + line.strip() + "\n");
            } else if (command) {
                found.add(line.strip() + "\n");
            }
            before = command;
        }
        return found;
    }

    // ---------------------------------------------------------------- running them

    private static String run(Path folder, String commands) throws Exception {
        Process shell = new ProcessBuilder("bash", "-e", "-c", commands).directory(folder.toFile()).redirectErrorStream(true).start();
        shell.getOutputStream().close();
        String printed = new String(shell.getInputStream().readAllBytes(), StandardCharsets.UTF_8);
        C.due("exit code of " + commands, shell.waitFor(), 0);
        return printed;
    }

    private static void copy(Path from, Path to) throws IOException {
        try (Stream<Path> all = Files.walk(from)) {
            for (Path each : (Iterable<Path>) all::iterator) {
                Files.copy(each, to.resolve(from.relativize(each).toString()));
            }
        }
    }

    private static void remove(Path folder) throws IOException {
        try (Stream<Path> all = Files.walk(folder)) {
            for (Path each : (Iterable<Path>) all.sorted(Comparator.reverseOrder())::iterator) {
                Files.delete(each);
            }
        }
    }
}
