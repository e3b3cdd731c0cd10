import java.io.IOException;
import java.lang.reflect.Method;
import java.lang.reflect.Modifier;
import java.nio.file.Files;
import java.nio.file.Path;
import java.util.Arrays;
import java.util.Set;
import java.util.TreeSet;
import java.util.regex.Matcher;
import java.util.regex.Pattern;

/** What README.md shows is what the class does. */
public final class ReadmeTest {
    private static final Check CHECK = new Check();
    private static final Pattern CALL = Pattern.compile("(?m)^g\\.(\\w+)\\(([^)]*)\\); +// (-?\\d+)(: (match|rule|ive|\\]->).*)?");

    public static void main(String[] args) throws IOException, ReflectiveOperationException {
        String readme = Files.readString(Path.of("README.md"));
        examples(readme);
        table(readme);
        texts(readme);
        tests(readme);
        CHECK.end("ReadmeTest");
    }

    private static void examples(String readme) throws ReflectiveOperationException {
        PathQueries g = new PathQueries();
        int calls = 0;
        Matcher call = CALL.matcher(readme);
        while (call.find()) {
            int[] given = numbers(call.group(2));
            if (call.group(4) != null) {
                CHECK.due("bytes of " + call.group(), bytes(given).equals(call.group(4).substring(2)));
            }
            CHECK.due(call.group(), answer(g, call.group(1), given), Integer.parseInt(call.group(3)));
            calls++;
        }
        long shown = readme.lines().filter(line -> line.startsWith("g.")).count();
        CHECK.due("calls that are shown", calls, shown);
        CHECK.due("there are some", calls > 30);
    }

    private static int[] numbers(String list) {
        return list.isBlank() ? new int[0]
                : Arrays.stream(list.split(",")).mapToInt(one -> Integer.decode(one.strip())).toArray();
    }

    private static int answer(PathQueries g, String name, int[] given) throws ReflectiveOperationException {
        Class<?>[] types = new Class<?>[given.length];
        Arrays.fill(types, int.class);
        Object[] boxed = Arrays.stream(given).boxed().toArray();
        return (Integer) PathQueries.class.getMethod(name, types).invoke(g, boxed);
    }

    private static String bytes(int[] given) {
        StringBuilder text = new StringBuilder();
        for (int four : given) {
            for (int shift = 24; shift >= 0; shift -= 8) {
                text.append((char) (four >> shift & 255));
            }
        }
        return text.toString().stripTrailing();
    }

    private static void table(String readme) {
        Set<String> shown = new TreeSet<>();
        Matcher row = Pattern.compile("(?m)^\\| `(\\w+)\\(([^)]*)\\)` \\|").matcher(readme);
        while (row.find()) {
            int given = row.group(2).isBlank() ? 0 : row.group(2).split(",").length;
            shown.add(row.group(1) + " " + given);
        }
        Set<String> face = new TreeSet<>();
        for (Method m : PathQueries.class.getDeclaredMethods()) {
            if (Modifier.isPublic(m.getModifiers())) {
                face.add(m.getName() + " " + m.getParameterCount());
            }
        }
        CHECK.due("the calls " + shown, shown.equals(face));
    }

    private static void texts(String readme) {
        int texts = 0;
        for (String line : readme.lines().toList()) {
            PathQueries g = new PathQueries();
            if (line.startsWith("match ")) {
                CHECK.due(line, Check.question(g, 0, line) > 0);
                texts++;
            } else if (line.startsWith("rule ")) {
                CHECK.due(line, Check.rule(g, line) >= 0);
                texts++;
            }
        }
        CHECK.due("texts", texts, 3);
    }

    private static void tests(String readme) throws IOException {
        try (var files = Files.list(Path.of("src/test/java"))) {
            for (Path file : files.toList()) {
                String name = file.getFileName().toString().replace(".java", "");
                CHECK.due("README.md tells of " + name, name.equals("Check") || readme.contains("`" + name + "`"));
            }
        }
    }
}
