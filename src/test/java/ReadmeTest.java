import java.io.IOException;
import java.lang.reflect.Method;
import java.lang.reflect.Modifier;
import java.nio.file.Files;
import java.nio.file.Path;
import java.util.ArrayList;
import java.util.Comparator;
import java.util.List;
import java.util.Set;
import java.util.TreeSet;
import java.util.regex.Matcher;
import java.util.regex.Pattern;
import java.util.stream.Stream;

/**
 * What README.md says holds: its example and its commands are tried as they stand there, in a copy
 * of this checkout. It is run at the top of the checkout.
 */
public final class ReadmeTest {
    private static final Path README = Path.of("README.md");
    private static final Path TESTS = Path.of("src/test/java");
    private static final String ALL_TESTS = ".ci/run";

    /** A block between fences: the word behind the first fence, and its lines. */
    private record Block(String kind, List<String> lines) {
        String text() {
            return String.join("\n", lines).strip();
        }
    }

    public static void main(String[] args) throws IOException, InterruptedException {
        Script script = new Script();
        List<String> page = Files.readAllLines(README);
        Path room = Files.createTempDirectory("readme");
        try {
            tryCommands(script, read(page), copyInto(room));
        } finally {
            remove(room);
        }
        calls(script, String.join("\n", page));
        tests(script, String.join("\n", page));
        script.end("ReadmeTest");
    }

    private static List<Block> read(List<String> page) {
        List<Block> blocks = new ArrayList<>();
        Block open = null;
        for (String line : page) {
            if (!line.startsWith("```")) {
                if (open != null) {
                    open.lines().add(line);
                }
            } else if (open == null) {
                open = new Block(line.substring(3), new ArrayList<>());
            } else {
                blocks.add(open);
                open = null;
            }
        }
        return blocks;
    }

    /** Answers the copy's top, beside which the shared tests stand as they do here. */
    private static Path copyInto(Path room) throws IOException {
        Path top = room.resolve("main");
        copy(Path.of("src"), top.resolve("src"));
        copy(Path.of("../shared/tests"), room.resolve("shared/tests"));
        Files.createDirectories(top.resolve("build"));
        return top;
    }

    private static void copy(Path from, Path to) throws IOException {
        try (Stream<Path> found = Files.walk(from)) {
            for (Path path : found.toList()) {
                Path copied = to.resolve(from.relativize(path).toString());
                if (Files.isDirectory(path)) {
                    Files.createDirectories(copied);
                } else {
                    Files.write(copied, Files.readAllBytes(path));
                }
            }
        }
    }

    private static void remove(Path room) throws IOException {
        try (Stream<Path> found = Files.walk(room)) {
            for (Path path : found.sorted(Comparator.reverseOrder()).toList()) {
                Files.delete(path);
            }
        }
    }

    private static void tryCommands(Script script, List<Block> blocks, Path top)
            throws IOException, InterruptedException {
        int tried = 0;
        String printed = "";
        for (Block block : blocks) {
            switch (block.kind()) {
                case "java" -> Files.writeString(top.resolve("build/Example.java"), block.text());
                case "text" -> script.due("what the example prints", printed, block.text());
                case "sh" -> {
                    printed = run(script, block, top);
                    tried += block.lines().size();
                }
                default -> script.due("the kind of a block", block.kind(), "java, text or sh");
            }
        }
        script.due("how many commands there are", tried, 7);
    }

    private static String run(Script script, Block commands, Path top)
            throws IOException, InterruptedException {
        StringBuilder printed = new StringBuilder();
        for (String command : commands.lines()) {
            if (command.equals(ALL_TESTS)) {
                // It runs this very test, so it is only looked for.
                script.due(command + " can be run", Files.isExecutable(Path.of(command)), true);
            } else {
                Process process = new ProcessBuilder(command.split(" ")).directory(top.toFile())
                        .redirectError(ProcessBuilder.Redirect.INHERIT).start();
                printed.append(new String(process.getInputStream().readAllBytes()));
                script.due(command + " ends with", process.waitFor(), 0);
            }
        }
        return printed.toString().strip();
    }

    /** Each call of the class has its row with as many arguments as it takes, and no row is more. */
    private static void calls(Script script, String page) {
        Set<String> expected = new TreeSet<>();
        for (Method method : MapRevisions.class.getDeclaredMethods()) {
            if (Modifier.isPublic(method.getModifiers())) {
                expected.add(method.getName() + "/" + method.getParameterCount());
            }
        }
        Set<String> found = new TreeSet<>();
        Matcher row = Pattern.compile("(?m)^\\| `(\\w+)\\((.*?)\\)` \\|").matcher(page);
        while (row.find()) {
            int arguments = row.group(2).isEmpty() ? 0 : row.group(2).split(", ").length;
            found.add(row.group(1) + "/" + arguments);
        }
        script.due("the calls that have a row", found, expected);
    }

    private static void tests(Script script, String page) throws IOException {
        Set<String> expected = new TreeSet<>();
        try (Stream<Path> files = Files.list(TESTS)) {
            files.map(file -> file.getFileName().toString()).filter(name -> name.endsWith("Test.java"))
                    .forEach(name -> expected.add(name.substring(0, name.length() - 5)));
        }
        Set<String> found = new TreeSet<>();
        Matcher name = Pattern.compile("`(\\w+Test)`").matcher(page);
        while (name.find()) {
            found.add(name.group(1));
        }
        script.due("the tests that are named", found, expected);
    }
}
