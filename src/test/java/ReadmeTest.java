import java.io.IOException;
import java.lang.reflect.Method;
import java.lang.reflect.Modifier;
import java.nio.charset.StandardCharsets;
import java.nio.file.Files;
import java.nio.file.Path;
import java.util.Comparator;
import java.util.List;
import java.util.stream.Stream;

/** The example of README.md compiles, and prints what README.md says; so the page can't fall behind the class. */
public final class ReadmeTest {
    private static final Path PAGE = Path.of("README.md");
    private static final String MAIN = "src/main/java/Plotroom.java";

    public static void main(String[] args) throws Exception {
        example();
        everyCallIsNamed();
        commandsNameFilesThatExist();
        Checks.end();
    }

    private static void example() throws Exception {
        Path place = Files.createTempDirectory("readme");
        try {
            Path program = place.resolve("Example.java");
            Files.writeString(program, block("```java"));
            printed("javac", "-d", place.toString(), MAIN, program.toString());
            Checks.isText("the example", printed("java", "-cp", place.toString(), "Example"), block("```text"));
        } finally {
            remove(place);
        }
    }

    private static void everyCallIsNamed() throws IOException {
        String page = Files.readString(PAGE);
        for (Method call : Plotroom.class.getDeclaredMethods()) {
            if (Modifier.isPublic(call.getModifiers())) {
                Checks.is("README.md tells " + call.getName(), page.contains("`" + call.getName() + "("), true);
            }
        }
    }

    private static void commandsNameFilesThatExist() throws IOException {
        for (String line : Files.readAllLines(PAGE)) {
            for (String word : line.startsWith("javac ") ? line.split(" ") : new String[0]) {
                if (word.endsWith(".java") && !word.contains("*") && !word.equals("Example.java")) {
                    Checks.is(word + " is there", Files.exists(Path.of(word)), true);
                }
            }
        }
    }

    /** The lines of the first block that begins with the given fence. */
    private static String block(String fence) throws IOException {
        StringBuilder lines = new StringBuilder();
        boolean isInside = false;
        for (String line : Files.readAllLines(PAGE)) {
            if (isInside && line.equals("```")) {
                return lines.toString();
            }
            if (isInside) {
                lines.append(line).append('\n');
            }
            isInside = isInside || line.equals(fence);
        }
        return "README.md has no block " + fence;
    }

    /** What the command prints; its errors go where those of the test go, for a machine may add notes of its own to them. */
    private static String printed(String... command) throws Exception {
        Process process = new ProcessBuilder(command).redirectError(ProcessBuilder.Redirect.INHERIT).start();
        String all = new String(process.getInputStream().readAllBytes(), StandardCharsets.UTF_8);
        Checks.is(command[0] + " ends with", process.waitFor(), 0);
        return all;
    }

    private static void remove(Path place) throws IOException {
        try (Stream<Path> found = Files.walk(place)) {
            for (Path path : found.sorted(Comparator.reverseOrder()).toList()) {
                Files.delete(path);
            }
        }
    }

    private ReadmeTest() {
    }
}
