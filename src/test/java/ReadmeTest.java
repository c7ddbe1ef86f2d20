import java.io.IOException;
import java.lang.reflect.Method;
import java.lang.reflect.Modifier;
import java.nio.charset.StandardCharsets;
import java.nio.file.Files;
import java.nio.file.Path;
import java.util.ArrayList;
import java.util.Comparator;
import java.util.List;
import java.util.Set;
import java.util.TreeSet;
import java.util.regex.Matcher;
import java.util.regex.Pattern;
import java.util.stream.Stream;

/** README.md: its program and its commands, each tried as it stands there, in a copy of the project. */
public final class ReadmeTest {
    private static final Pattern BLOCK = Pattern.compile("(?ms)^```([a-z]+)\n(.*?)^```$");
    private static final Pattern TEST_ROW = Pattern.compile("(?m)^\\| (\\w+) \\|");
    private static final Pattern FACE_ROW = Pattern.compile("(?m)^\\| (`\\w+`(?: `\\w+`)*) \\|");
    private static final Due due = new Due();

    private record Ran(int code, String printed) {
    }

    public static void main(String[] args) throws IOException, InterruptedException {
        due.promise(0, "README.md");
        String page = Files.readString(Path.of("README.md"));
        Path copy = Files.createTempDirectory("readme");
        try {
            copyTree(Path.of("src"), copy.resolve("src"));
            example(page, copy);
            commandsOfTests(page, copy);
        } finally {
            deleteTree(copy);
        }
        everyTestIsTold(page);
        everyCallIsTold(page);
        due.end();
    }

    private static void example(String page, Path project) throws IOException, InterruptedException {
        Files.writeString(project.resolve("Example.java"), only(blocks(page, "java")));
        Ran ran = run(blocks(page, "sh").get(0), project);
        same("the example prints", ran.printed(), only(blocks(page, "text")));
        due.is("the example ends", ran.code(), 0);
    }

    /** The command that runs all tests runs this one, too, so it is not run here again. */
    private static void commandsOfTests(String page, Path project) throws IOException, InterruptedException {
        List<String> commands = blocks(page, "sh");
        due.is("blocks of commands", commands.size(), 3);
        String all = commands.get(1).trim();
        due.is(all + " can be run", Files.isExecutable(Path.of(all)) ? 1 : 0, 1);
        Ran ran = run(commands.get(2), project);
        due.is("one test by itself, which printed " + ran.printed() + ",", ran.code(), 0);
        due.is("it says that answers are as due", ran.printed().endsWith("answers are as due\n") ? 1 : 0, 1);
    }

    private static void everyTestIsTold(String page) throws IOException {
        Set<String> there = new TreeSet<>();
        try (Stream<Path> files = Files.list(Path.of("src", "test", "java"))) {
            for (Path file : files.toList()) {
                String name = file.getFileName().toString();
                if (name.endsWith("Test.java")) there.add(name.replace(".java", ""));
            }
        }
        Set<String> told = new TreeSet<>();
        Matcher rows = TEST_ROW.matcher(page);
        while (rows.find()) {
            if (rows.group(1).endsWith("Test")) told.add(rows.group(1));
        }
        same("the tests that are told", told.toString(), there.toString());
    }

    private static void everyCallIsTold(String page) {
        Set<String> there = new TreeSet<>();
        for (Method method : GaleNames.class.getDeclaredMethods()) {
            if (Modifier.isPublic(method.getModifiers())) there.add("`" + method.getName() + "`");
        }
        List<String> told = new ArrayList<>();
        Matcher rows = FACE_ROW.matcher(page);
        while (rows.find()) told.addAll(List.of(rows.group(1).split(" ")));
        same("the calls that are told", new TreeSet<>(told).toString(), there.toString());
        due.is("calls that are told", told.size(), there.size());
    }

    private static List<String> blocks(String page, String language) {
        List<String> found = new ArrayList<>();
        Matcher blocks = BLOCK.matcher(page);
        while (blocks.find()) {
            if (blocks.group(1).equals(language)) found.add(blocks.group(2));
        }
        return found;
    }

    private static String only(List<String> blocks) {
        due.is("blocks of this kind", blocks.size(), 1);
        return blocks.get(0);
    }

    private static Ran run(String commands, Path where) throws IOException, InterruptedException {
        Process shell = new ProcessBuilder("sh", "-e", "-c", commands)
            .directory(where.toFile()).redirectError(ProcessBuilder.Redirect.INHERIT).start();
        String printed = new String(shell.getInputStream().readAllBytes(), StandardCharsets.UTF_8);
        return new Ran(shell.waitFor(), printed);
    }

    private static void same(String what, String got, String want) {
        if (!got.equals(want)) System.out.println(what + "\n" + got + "for\n" + want);
        due.is(what, got.equals(want) ? 1 : 0, 1);
    }

    private static void copyTree(Path from, Path to) throws IOException {
        try (Stream<Path> files = Files.walk(from)) {
            for (Path file : files.toList()) Files.copy(file, to.resolve(from.relativize(file).toString()));
        }
    }

    private static void deleteTree(Path tree) throws IOException {
        try (Stream<Path> files = Files.walk(tree)) {
            for (Path file : files.sorted(Comparator.reverseOrder()).toList()) Files.delete(file);
        }
    }
}
