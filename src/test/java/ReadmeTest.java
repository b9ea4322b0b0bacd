import java.io.File;
import java.io.IOException;
import java.io.InputStream;
import java.lang.reflect.Field;
import java.lang.reflect.Method;
import java.lang.reflect.Modifier;
import java.nio.charset.StandardCharsets;
import java.nio.file.Files;
import java.nio.file.Path;
import java.util.ArrayList;
import java.util.Comparator;
import java.util.List;
import java.util.regex.Matcher;
import java.util.regex.Pattern;
import java.util.stream.Collectors;
import java.util.stream.Stream;

/** What README.md shows compiles by its own lines and prints what it says, and it tells of every call and constant. */
public final class ReadmeTest {
    private static final Path PROGRAM = Path.of("src", "main", "java", "DockedBikes.java");

    public static void main(String[] args) throws Exception {
        String readme = Files.readString(Path.of("README.md"));
        example(readme);
        calls(readme);
        constants(readme);
        Checks.end();
    }

    /** The blocks of a kind, as "```java" and "```" enclose them. */
    private static List<String> blocks(String readme, String kind) {
        List<String> found = new ArrayList<>();
        Matcher matcher = Pattern.compile("(?ms)^```" + kind + "\n(.*?)^```$").matcher(readme);
        while (matcher.find()) {
            found.add(matcher.group(1));
        }
        return found;
    }

    private static void example(String readme) throws IOException, InterruptedException {
        Checks.title("the example");
        List<String> programs = blocks(readme, "java");
        List<String> commands = blocks(readme, "sh");
        List<String> printed = blocks(readme, "text");
        boolean one = programs.size() == 1 && commands.size() == 1 && printed.size() == 1;
        Checks.holds("README.md has one program, the lines that run it, and what it prints", one);
        if (one) {
            runIn(Files.createTempDirectory("readme"), programs.get(0), commands.get(0), printed.get(0));
        }
    }

    // A folder of its own that looks as the README says, so that nothing is left behind in the project.
    private static void runIn(Path folder, String program, String commands, String printed) throws IOException, InterruptedException {
        try {
            Path copy = folder.resolve(PROGRAM);
            Files.createDirectories(copy.getParent());
            Files.copy(PROGRAM, copy);
            Files.writeString(folder.resolve("Example.java"), program);
            StringBuilder out = new StringBuilder();
            for (String command : commands.split("\n")) {
                out.append(run(folder, command));
            }
            Checks.holds("it printed\n" + out + "and README.md says\n" + printed, out.toString().equals(printed));
        } finally {
            remove(folder);
        }
    }

    private static String run(Path folder, String command) throws IOException, InterruptedException {
        // What a Java machine says of its own settings comes there, and is no answer of the example.
        ProcessBuilder builder = new ProcessBuilder(command.split(" ")).redirectError(ProcessBuilder.Redirect.INHERIT);
        Process process = builder.directory(folder.toFile()).start();
        try (InputStream stream = process.getInputStream()) {
            String out = new String(stream.readAllBytes(), StandardCharsets.UTF_8);
            int code = process.waitFor();
            Checks.holds(command + " ended with " + code + " and said\n" + out, code == 0);
            return out.replace("\r\n", "\n");
        }
    }

    private static void remove(Path folder) throws IOException {
        try (Stream<Path> all = Files.walk(folder)) {
            for (File file : all.sorted(Comparator.reverseOrder()).map(Path::toFile).collect(Collectors.toList())) {
                file.delete();
            }
        }
    }

    private static void calls(String readme) {
        Checks.title("the calls");
        for (Method m : DockedBikes.class.getDeclaredMethods()) {
            if (Modifier.isPublic(m.getModifiers())) {
                Matcher told = Pattern.compile("(?m)^\\| `" + m.getName() + "\\(([^)]*)\\)`").matcher(readme);
                boolean found = told.find();
                String arguments = found ? told.group(1) : "";
                int count = arguments.isEmpty() ? 0 : arguments.split(", ").length;
                Checks.holds(m.getName() + " is told with its arguments", found && count == m.getParameterCount());
            }
        }
    }

    private static void constants(String readme) throws IllegalAccessException {
        Checks.title("the constants");
        for (Field f : DockedBikes.class.getDeclaredFields()) {
            if (Modifier.isPublic(f.getModifiers())) {
                String row = "| `" + f.getName() + "` | " + f.getInt(null) + " |";
                Checks.holds(row + " is told", readme.contains(row));
            }
        }
    }
}
