import java.io.IOException;
import java.lang.reflect.Method;
import java.lang.reflect.Modifier;
import java.nio.file.Files;
import java.nio.file.Path;
import java.util.List;
import java.util.stream.Stream;

/** README.md's example compiles with the class, and answers what README.md says it answers. */
public final class ReadmeTest {
    private static final Checks checks = new Checks();

    public static void main(String[] args) throws IOException {
        String readme = Files.readString(Path.of("README.md"));
        ReadmeExample example = new ReadmeExample(readme);
        checks.test("the example compiles, and answers what README.md says it answers", () ->
            checks.due("wrong answers", wrongAnswers(example, true), 0));
        checks.test("each call of the example tells its answer", () ->
            checks.due("calls that do: " + example.calls(), example.told().size(), example.calls().size()));
        checks.test("each method of the class is called in the example", () -> methodsCalled(example));
        checks.test("a wrong example would be found", ReadmeTest::wrongExamples);
        testsNamed(readme);
        checks.close();
    }

    private static int wrongAnswers(ReadmeExample example, boolean shown) {
        List<String> told = example.told();
        List<String> given = example.given();
        int wrong = Math.abs(told.size() - given.size());
        for (int i = 0; i < Math.min(told.size(), given.size()); i++) {
            if (!told.get(i).equals(given.get(i))) {
                wrong++;
                if (shown) {
                    System.out.println("README.md: " + told.get(i) + "; the class: " + given.get(i));
                }
            }
        }
        return wrong;
    }

    private static void methodsCalled(ReadmeExample example) {
        for (Method method : SightRows.class.getDeclaredMethods()) {
            if (Modifier.isPublic(method.getModifiers())) {
                String call = "road." + method.getName() + "(";
                checks.due(call + ")", example.calls().stream().anyMatch(line -> line.startsWith(call)), true);
            }
        }
    }

    /** Were the look itself blind, a README with faults would pass it. */
    private static void wrongExamples() {
        String begin = "```java\nSightRows road = new SightRows();\n";
        checks.due("a right one", wrongIn(begin + "road.count(0);  // 0: words\n```\n"), 0);
        checks.due("a wrong number", wrongIn(begin + "road.count(0);  // 1: words\n```\n"), 1);
        checks.due("a sign too much", wrongIn(begin + "road.way(0);  // 1\nroad.way(0);  // -1\n```\n"), 1);
        checks.due("a wrong truth", wrongIn(begin + "road.heights(1, 1);  // false\n```\n"), 1);
        checks.due("in a second block", wrongIn(begin + "```\n\n```java\nroad.count(0);  // 2\n```\n"), 1);
        checks.due("no such method", compiles(begin + "road.gaps(0);  // 0\n```\n"), false);
        checks.due("no such argument", compiles(begin + "road.count(true);  // 0\n```\n"), false);
        checks.due("a line that tells nothing", compiles(begin + "road.count(0)\n```\n"), false);
        checks.due("a call that tells nothing",
            new ReadmeExample(begin + "road.count(0);  // stations\n```\n").told().size(), 0);
    }

    private static int wrongIn(String readme) {
        return wrongAnswers(new ReadmeExample(readme), false);
    }

    private static boolean compiles(String readme) {
        try {
            new ReadmeExample(readme).given();
            return true;
        } catch (IllegalArgumentException notCompiled) {
            return false;
        }
    }

    private static void testsNamed(String readme) throws IOException {
        try (Stream<Path> files = Files.list(Path.of("src/test/java"))) {
            List<String> tests = files.map(file -> file.getFileName().toString())
                .filter(name -> name.endsWith("Test.java")).toList();
            checks.test("README.md names each test", () -> tests.forEach(name ->
                checks.due(name, readme.contains(name + "`"), true)));
        }
    }
}
