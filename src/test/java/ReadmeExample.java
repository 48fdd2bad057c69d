import java.io.ByteArrayOutputStream;
import java.io.IOException;
import java.net.URL;
import java.net.URLClassLoader;
import java.nio.charset.StandardCharsets;
import java.nio.file.Files;
import java.nio.file.Path;
import java.util.ArrayList;
import java.util.Comparator;
import java.util.List;
import java.util.regex.Matcher;
import java.util.regex.Pattern;
import java.util.stream.Stream;
import javax.tools.ToolProvider;

/**
 * The java blocks of a README, one behind the other, and the answers that they tell behind their
 * calls: "road.way(6);  // 6000: whatever words".
 */
final class ReadmeExample {
    private static final Pattern BLOCK = Pattern.compile("(?ms)^```java\\R(.*?)^```");
    private static final Pattern TOLD = Pattern.compile("(road\\..*\\));\\s*//\\s*(-?\\d+|true|false)(:.*)?");
    private final List<String> lines = new ArrayList<>();

    ReadmeExample(String readme) {
        Matcher blocks = BLOCK.matcher(readme);
        while (blocks.find()) {
            blocks.group(1).lines().map(String::strip).forEach(lines::add);
        }
    }

    /** The lines with a call of the class, whether they tell its answer or not. */
    List<String> calls() {
        return lines.stream().filter(line -> line.replaceAll("//.*", "").contains("road.")).toList();
    }

    /** The told answers, each behind its call. */
    List<String> told() {
        return lines.stream().map(TOLD::matcher).filter(Matcher::matches)
            .map(call -> call.group(1) + " answers " + call.group(2)).toList();
    }

    /** The answers that the class gives, in the form of told(); thrown if that does not compile. */
    List<String> given() {
        try {
            Path folder = Files.createTempDirectory("readme");
            try {
                compile(folder);
                return run(folder);
            } finally {
                delete(folder);
            }
        } catch (IOException | ReflectiveOperationException failed) {
            throw new IllegalStateException(failed);
        }
    }

    private void compile(Path folder) throws IOException {
        Path file = Files.writeString(folder.resolve("ReadmeUse.java"), source());
        ByteArrayOutputStream messages = new ByteArrayOutputStream();
        int exit = ToolProvider.getSystemJavaCompiler().run(null, messages, messages, "--release", "17",
            "-d", folder.toString(), "src/main/java/SightRows.java", file.toString());
        if (exit != 0) {
            throw new IllegalArgumentException(messages.toString(StandardCharsets.UTF_8));
        }
    }

    /** Once as it stands in the README, so that this compiles; once with the answers gathered. */
    private String source() {
        StringBuilder gathering = new StringBuilder();
        for (String line : lines) {
            Matcher call = TOLD.matcher(line);
            gathering.append(call.matches()
                ? "given.add(\"" + call.group(1) + " answers \" + " + call.group(1) + ");" : line).append('\n');
        }
        return "public final class ReadmeUse {\n"
            + "public static void asItStands() {\n" + String.join("\n", lines) + "\n}\n"
            + "public static void gather(java.util.List<String> given) {\n" + gathering + "}\n}\n";
    }

    private static List<String> run(Path folder) throws IOException, ReflectiveOperationException {
        List<String> given = new ArrayList<>();
        URL[] places = {folder.toUri().toURL()};
        try (URLClassLoader loader = new URLClassLoader(places, ClassLoader.getPlatformClassLoader())) {
            Class<?> use = loader.loadClass("ReadmeUse");
            use.getMethod("asItStands").invoke(null);
            use.getMethod("gather", List.class).invoke(null, given);
        }
        return given;
    }

    private static void delete(Path folder) throws IOException {
        try (Stream<Path> inside = Files.walk(folder)) {
            for (Path path : inside.sorted(Comparator.reverseOrder()).toList()) {
                Files.delete(path);
            }
        }
    }
}
