import java.io.IOException;
import java.lang.reflect.Method;
import java.nio.file.Files;
import java.nio.file.Path;
import java.util.Arrays;
import java.util.List;
import java.util.regex.Matcher;
import java.util.regex.Pattern;
import java.util.stream.Collectors;

/** README.md names every call and every test, and the calls of its example answer what stands behind them. */
public final class ReadmeTest {
    private static final Pattern HEADER = Pattern.compile("public \\w+ (\\w+\\(.*?\\)).*");
    private static final Pattern CALL = Pattern.compile("roof\\.(\\w+)\\(([-\\d, ]*)\\); +// (\\S+): .*");
    private static final Pattern TEXT = Pattern.compile("for \\(char sign : \"(.*)\"\\.toCharArray\\(\\)\\) \\{");
    private static final Checks checks = new Checks();

    public static void main(String[] args) throws IOException {
        String readme = Files.readString(Path.of("README.md"));
        everyCallIsNamed(readme);
        everyTestIsNamed(readme);
        theExample(readme);
        checks.end("ReadmeTest");
    }

    private static void everyCallIsNamed(String readme) throws IOException {
        for (String header : new Language(Files.readString(Path.of("src/main/java/RoofDrains.java"))).headers()) {
            Matcher call = HEADER.matcher(header);
            if (call.matches()) {
                String named = "`" + call.group(1).replace("int ", "") + "`";
                checks.due("README.md names " + named, () -> readme.contains(named), true);
            }
        }
    }

    private static void everyTestIsNamed(String readme) throws IOException {
        try (var files = Files.list(Path.of("src/test/java"))) {
            for (Path file : files.sorted().collect(Collectors.toList())) {
                String name = file.getFileName().toString().replace(".java", "");
                checks.due("README.md names " + name, () -> readme.contains(name), true);
            }
        }
    }

    private static void theExample(String readme) {
        int begin = readme.indexOf("```java\n");
        List<String> lines = readme.substring(begin + 8, readme.indexOf("\n```", begin)).lines()
            .collect(Collectors.toList());
        checks.due("the first line", () -> lines.get(0), "RoofDrains roof = new RoofDrains();");
        RoofDrains roof = new RoofDrains();
        int answers = 0;
        for (String line : lines.subList(1, lines.size())) {
            Matcher call = CALL.matcher(line);
            Matcher text = TEXT.matcher(line);
            if (call.matches()) {
                answers++;
                checks.due(line, () -> answer(roof, call.group(1), call.group(2)), call.group(3));
            } else if (text.matches()) {
                Checks.type(roof, text.group(1));
            } else {
                checks.due(line, () -> line.equals("    roof.append(sign);") || line.equals("}"), true);
            }
        }
        int told = answers;
        checks.due("lines with an answer", () -> told > 5, true);
    }

    private static String answer(RoofDrains roof, String name, String numbers) throws ReflectiveOperationException {
        Object[] arguments = Arrays.stream(numbers.split(", ")).filter(number -> !number.isEmpty()).map(Integer::valueOf)
            .toArray();
        Class<?>[] types = new Class<?>[arguments.length];
        Arrays.fill(types, int.class);
        Method method = RoofDrains.class.getMethod(name, types);
        return String.valueOf(method.invoke(roof, arguments));
    }
}
