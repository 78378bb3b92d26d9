import java.io.IOException;
import java.lang.reflect.Method;
import java.lang.reflect.Modifier;
import java.nio.file.Files;
import java.nio.file.Path;
import java.util.ArrayList;
import java.util.HashMap;
import java.util.List;
import java.util.Map;
import java.util.Set;
import java.util.TreeSet;
import java.util.regex.Matcher;
import java.util.regex.Pattern;
import java.util.stream.Collectors;
import java.util.stream.Stream;

/** README.md: what it shows of calls, answers and pictures is so, and the tests that it names are there. */
final class ReadmeTest {
    private static final Due DUE = new Due();
    private static final Path README = Path.of("README.md");
    private static final Path TESTS = Path.of("src", "test", "java");
    private static final Pattern MADE =
            Pattern.compile("TriangleRaster (\\w+) = new TriangleRaster\\((-?\\d+), (-?\\d+)\\);(?: +// .*)?");
    private static final Pattern CALL =
            Pattern.compile("(\\w+)\\.(\\w+)\\((-?\\d+(?:, -?\\d+)*)\\); +// (true|false|NONE|-?\\d+)(?:[:,] .*)?");
    private static final Pattern QUOTED = Pattern.compile("`([^`]*)`");
    private static final List<String> FACE = List.of("TriangleRaster(int w, int h)", "boolean clear(int c, int z)",
            "boolean vertex(int k, int x, int y, int z)", "int triangle(int c)", "boolean covers(int column, int row)",
            "int line(int x0, int y0, int x1, int y1, int c)", "int fill(int x, int y, int c)",
            "int pixel(int x, int y)", "int depthAt(int x, int y)", "int count(int c)", "int pieces(int c)");

    private final Map<String, TriangleRaster> objects = new HashMap<>();
    private final Set<String> shown = new TreeSet<>();
    private TriangleRaster last = new TriangleRaster(1, 1);
    private int pictures = 0;

    public static void main(String[] args) throws IOException, ReflectiveOperationException {
        List<String> lines = Files.readAllLines(README);
        ReadmeTest readme = new ReadmeTest();
        readme.read(lines);
        readme.showsAll();
        tellsTheFace(lines);
        namesEachTest(lines);
        namesWhatIsThere(lines);
        DUE.end();
    }

    /** Goes through the file with its blocks of code and of pictures; the fence tells which it is. */
    private void read(List<String> lines) throws ReflectiveOperationException {
        String fence = "";
        List<String> block = new ArrayList<>();
        for (String line : lines) {
            if (!line.startsWith("```")) {
                block.add(line);
                continue;
            }
            readBlock(fence, block);
            block.clear();
            fence = !fence.isEmpty() ? "" : line;
        }
        DUE.same("each block of README.md ends", fence.isEmpty(), true);
        readBlock(fence, block);
    }

    private void readBlock(String fence, List<String> block) throws ReflectiveOperationException {
        if (fence.equals("```java")) {
            for (String line : block) {
                run(line);
            }
        } else if (fence.equals("```text")) {
            DUE.picture("README.md, picture " + (pictures + 1), last, block.toArray(new String[0]));
            pictures++;
        } else if (fence.isEmpty()) {
            for (String line : block) {
                noCallIn(line);
            }
        }
    }

    private void run(String line) throws ReflectiveOperationException {
        Matcher made = MADE.matcher(line);
        Matcher call = CALL.matcher(line);
        if (made.matches()) {
            last = new TriangleRaster(Integer.parseInt(made.group(2)), Integer.parseInt(made.group(3)));
            objects.put(made.group(1), last);
        } else if (call.matches() && objects.containsKey(call.group(1))) {
            last = objects.get(call.group(1));
            answers(line, call.group(2), call.group(3), call.group(4));
        } else {
            DUE.same("README.md shows with its answer: " + line, false, true);
        }
    }

    private void answers(String line, String name, String numbers, String want) throws ReflectiveOperationException {
        Object[] given = Stream.of(numbers.split(", ")).map(Integer::valueOf).toArray();
        Class<?>[] types = Stream.of(given).map(number -> int.class).toArray(Class<?>[]::new);
        Method method = TriangleRaster.class.getMethod(name, types);
        boolean isYesOrNo = want.equals("true") || want.equals("false");
        DUE.same(line + " (true or false)", method.getReturnType() == boolean.class, isYesOrNo);
        DUE.same("README.md: " + line, number(method.invoke(last, given).toString()), number(want));
        shown.add(name);
    }

    private static long number(String answer) {
        return switch (answer) {
            case "true" -> 1;
            case "false" -> 0;
            case "NONE" -> TriangleRaster.NONE;
            default -> Long.parseLong(answer);
        };
    }

    /** A call with numbers stands in a block of code, where it is run. */
    private static void noCallIn(String line) {
        boolean has = Pattern.compile("\\w\\(-?\\d+(, -?\\d+)*\\)").matcher(line).find();
        DUE.same("README.md shows a call that is not run: " + line, has, false);
    }

    private void showsAll() {
        for (Method method : TriangleRaster.class.getDeclaredMethods()) {
            if (Modifier.isPublic(method.getModifiers())) {
                DUE.same("README.md shows " + method.getName(), shown.contains(method.getName()), true);
            }
        }
        DUE.same("README.md shows pictures", pictures > 0, true);
    }

    private static void tellsTheFace(List<String> lines) {
        for (String member : FACE) {
            boolean told = lines.stream().anyMatch(line -> line.contains("`" + member + "`"));
            DUE.same("README.md tells " + member, told, true);
        }
    }

    private static void namesEachTest(List<String> lines) throws IOException {
        try (Stream<Path> files = Files.list(TESTS)) {
            for (String file : files.map(path -> path.getFileName().toString()).collect(Collectors.toList())) {
                String name = "`" + file.replace(".java", "") + "`";
                DUE.same("README.md names " + name, lines.stream().anyMatch(line -> line.contains(name)), true);
            }
        }
    }

    /** In the tables a test's name is followed by names of its methods. */
    private static void namesWhatIsThere(List<String> lines) {
        for (String line : lines) {
            Matcher quoted = QUOTED.matcher(line);
            String test = "";
            while (quoted.find()) {
                String name = quoted.group(1);
                if (name.matches("\\w+Test")) {
                    test = name;
                    DUE.same("README.md names the test " + name, Files.exists(TESTS.resolve(name + ".java")), true);
                } else if (!test.isEmpty() && name.matches("\\w+") && line.contains("`" + test + "`:")) {
                    DUE.same("README.md names " + test + "." + name, hasMethod(test, name), true);
                }
            }
        }
    }

    private static boolean hasMethod(String test, String name) {
        try {
            return Stream.of(Class.forName(test).getDeclaredMethods()).anyMatch(method -> method.getName().equals(name));
        } catch (ClassNotFoundException e) {
            return false;
        }
    }
}
