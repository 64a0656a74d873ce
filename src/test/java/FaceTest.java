import java.io.IOException;
import java.lang.reflect.Executable;
import java.lang.reflect.Field;
import java.lang.reflect.Method;
import java.lang.reflect.Modifier;
import java.nio.file.Files;
import java.nio.file.Path;
import java.util.Arrays;
import java.util.LinkedHashSet;
import java.util.List;
import java.util.Set;
import java.util.regex.Matcher;
import java.util.regex.Pattern;
import java.util.stream.Collectors;

/** The public face, as ../shared/DOC.md writes it, and that there is none beside it. */
public final class FaceTest {
    private static final Path DOC = Path.of("../shared/DOC.md");
    private static final Path SOURCE = Path.of("src/main/java/RoofDrains.java");
    private static final String FIRST_LINE = "public final class RoofDrains {";
    private static final Checks checks = new Checks();

    public static void main(String[] args) throws IOException {
        String doc = Files.readString(DOC);
        String source = Files.readString(SOURCE);
        List<String> face = faceOf(doc);
        checks.due("members of the document's face", face::size, 25);
        checks.due("members of the class, in their order", () -> new Language(source).headers(), face);
        checks.due("the class begins so", () -> source.contains(FIRST_LINE), true);
        headings(doc, source);
        noOtherMembers(face);
        theClassesInside(namesOf(face));
        checks.end("FaceTest");
    }

    private static List<String> faceOf(String doc) {
        String inside = doc.substring(doc.indexOf(FIRST_LINE) + FIRST_LINE.length(), doc.indexOf("\n}\n```"));
        return inside.lines().map(String::trim).filter(line -> !line.isEmpty()).collect(Collectors.toList());
    }

    private static Set<String> namesOf(List<String> face) {
        return face.stream().map(header -> header.replaceFirst("\\(.*", "").replaceFirst(".* ", ""))
            .collect(Collectors.toCollection(LinkedHashSet::new));
    }

    /** "Ahead of the calls .. the interface says: ..": so the source does, and ends a group where the next begins. */
    private static void headings(String doc, String source) {
        Matcher says = Pattern.compile("Ahead of the calls (.*) the interface says: (---- .*)\\.\n").matcher(doc);
        int groups = 0;
        while (says.find()) {
            groups++;
            int at = source.indexOf("// " + says.group(2) + "\n");
            checks.due("the source says " + says.group(2), () -> at >= 0, true);
            int next = source.indexOf("// ----", at + 1);
            Matcher method = Pattern.compile("\n    public \\w+ (\\w+)\\(").matcher(source.substring(at, next));
            String calls = method.results().map(found -> "`" + found.group(1) + "`").collect(Collectors.joining(", "));
            String due = says.group(1);
            checks.due("the calls of " + says.group(2), () -> calls, due);
        }
        int found = groups;
        checks.due("groups of calls", () -> found, 4);
    }

    private static void noOtherMembers(List<String> face) {
        checks.due("the class", () -> Modifier.toString(RoofDrains.class.getModifiers()), "public final");
        checks.due("the constructors", () -> Arrays.toString(RoofDrains.class.getDeclaredConstructors()),
            "[public RoofDrains()]");
        String fields = Arrays.stream(RoofDrains.class.getDeclaredFields())
            .filter(field -> !Modifier.isPrivate(field.getModifiers())).map(Field::toString)
            .collect(Collectors.joining());
        checks.due("the fields", () -> fields, "public static final int RoofDrains.NONE");
        List<Method> open = Arrays.stream(RoofDrains.class.getDeclaredMethods())
            .filter(method -> !Modifier.isPrivate(method.getModifiers())).collect(Collectors.toList());
        checks.due("how many calls", open::size, face.size() - 2);
        for (Method method : open) {
            checks.due("modifiers of " + method.getName(), () -> Modifier.toString(method.getModifiers()), "public");
        }
    }

    private static void theClassesInside(Set<String> names) {
        for (Class<?> inside : RoofDrains.class.getDeclaredClasses()) {
            bearsNoName(names, inside.getDeclaredMethods());
        }
        bearsNoName(names, Arrays.stream(RoofDrains.class.getDeclaredMethods())
            .filter(method -> Modifier.isPrivate(method.getModifiers())).toArray(Method[]::new));
    }

    private static void bearsNoName(Set<String> names, Executable[] methods) {
        for (Executable method : methods) {
            checks.due(method + " bears a public name", () -> names.contains(method.getName()), false);
        }
    }
}
