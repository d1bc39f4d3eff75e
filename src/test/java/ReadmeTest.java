import java.io.IOException;
import java.nio.file.Files;
import java.nio.file.Path;
import java.util.ArrayList;
import java.util.Comparator;
import java.util.List;
import java.util.stream.Stream;

/** README.md: its program is the example, its commands run as they are written, and print what stands there. */
public final class ReadmeTest {
    private static final Check CHECK = new Check("ReadmeTest");

    public static void main(String[] args) throws Exception {
        Path checkout = Path.of(args.length > 0 ? args[0] : ".");
        String readme = Files.readString(checkout.resolve("README.md"));
        CHECK.same("the program", blocks(readme, "java"),
            List.of(Files.readString(checkout.resolve("src/example/java/Example.java"))));
        CHECK.holds("what runs all tests", Files.isExecutable(checkout.resolve(".ci/run")));
        CHECK.holds("is told", blocks(readme, "sh").contains(".ci/run\n"));
        Path copy = Files.createTempDirectory("readme");
        try {
            copySources(checkout, copy);
            commands(readme, copy);
        } finally {
            remove(copy);
        }
        names(readme);
        CHECK.end();
    }

    /** Each row of lines between "```" and the next one, of one language. */
    private static List<String> blocks(String readme, String language) {
        List<String> found = new ArrayList<>();
        StringBuilder block = null;
        for (String line : readme.split("\n", -1)) {
            if (block != null && line.equals("```")) {
                found.add(block.toString());
                block = null;
            } else if (block != null) {
                block.append(line).append("\n");
            } else if (line.equals("```" + language)) {
                block = new StringBuilder();
            }
        }
        return found;
    }

    /** All commands in their order, in a copy of what is checked out; .ci/run would run this test again. */
    private static void commands(String readme, Path copy) throws Exception {
        List<String> printed = new ArrayList<>();
        for (String block : blocks(readme, "sh")) {
            for (String command : block.split("\n")) {
                if (!command.equals(".ci/run")) {
                    String out = run(command, copy);
                    if (command.endsWith(" Example")) {
                        printed.add(out);
                    }
                }
            }
        }
        CHECK.same("what the example prints", printed, blocks(readme, "text"));
    }

    private static String run(String command, Path copy) throws Exception {
        Process process = new ProcessBuilder("sh", "-c", command).directory(copy.toFile())
            .redirectErrorStream(true).start();
        String out = new String(process.getInputStream().readAllBytes());
        CHECK.same(command + " fails with <" + out + ">", process.waitFor(), 0);
        return out;
    }

    /** Each method of the face is named. */
    private static void names(String readme) {
        for (java.lang.reflect.Method method : Justline.class.getDeclaredMethods()) {
            if (java.lang.reflect.Modifier.isPublic(method.getModifiers())) {
                CHECK.holds(method.getName() + " is named", readme.contains("`" + method.getName() + "`"));
            }
        }
    }

    private static void copySources(Path checkout, Path copy) throws IOException {
        try (Stream<Path> files = Files.walk(checkout.resolve("src"))) {
            for (Path file : files.filter(Files::isRegularFile).toList()) {
                Path to = copy.resolve(checkout.relativize(file).toString());
                Files.createDirectories(to.getParent());
                Files.copy(file, to);
            }
        }
    }

    private static void remove(Path copy) throws IOException {
        try (Stream<Path> files = Files.walk(copy)) {
            for (Path file : files.sorted(Comparator.reverseOrder()).toList()) {
                Files.delete(file);
            }
        }
    }
}
