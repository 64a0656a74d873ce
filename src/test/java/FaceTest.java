import java.io.IOException;
import java.lang.reflect.Executable;
import java.lang.reflect.Field;
import java.lang.reflect.Method;
import java.lang.reflect.Modifier;
import java.nio.file.Files;
import java.nio.file.Path;
import java.util.Arrays;
import java.util.List;
import java.util.Set;
import java.util.TreeSet;
import java.util.regex.Pattern;
import java.util.stream.Collectors;

/** The public face, with its throws clauses, and those rules of LANGUAGE.md that can be seen from outside. */
public final class FaceTest {
    private static final String OUT = "IndexOutOfBoundsException";
    private static final String BAD = "IllegalArgumentException";
    private static final String NOT = "IllegalStateException";
    private static final String SOURCE = "src/main/java/RoofDrains.java";
    private static final Checks checks = new Checks();

    /** Name, number of int arguments, what is returned, and the exceptions in their order. */
    private static final List<String> FACE = List.of(
        "plane 4 int " + OUT + " " + BAD, "gutter 3 int " + OUT + " " + BAD,
        "valley 2 int " + OUT + " " + BAD + " " + NOT, "clean 1 int " + OUT, "set 2 int " + OUT + " " + BAD,
        "rain 2 int " + BAD, "weeks 1 int " + BAD, "append 1 int " + BAD + " " + NOT, "clearBuffer 0 int",
        "firstError 0 int", "play 0 int " + BAD, "undo 0 int " + NOT, "planeOf 2 int " + OUT + " " + BAD,
        "gutterOf 2 int " + OUT + " " + BAD, "count 1 int " + BAD, "setting 1 int " + OUT, "ifRained 2 int " + BAD,
        "spillsFirst 1 int " + BAD, "bestClean 0 int", "mostRain 1 int " + BAD, "dryIn 0 int", "drainedShare 0 double",
        "digest 0 long");

    public static void main(String[] args) throws IOException {
        theFace();
        theClassesInside();
        theSource();
        checks.end("FaceTest");
    }

    private static void theFace() {
        Set<String> got = new TreeSet<>();
        for (Method method : RoofDrains.class.getDeclaredMethods()) {
            if (!Modifier.isPrivate(method.getModifiers())) {
                checks.due("modifiers of " + method.getName(), () -> Modifier.toString(method.getModifiers()), "public");
                got.add(told(method));
            }
        }
        checks.due("the methods", () -> got, new TreeSet<>(FACE));
        checks.due("the class", () -> Modifier.toString(RoofDrains.class.getModifiers()), "public final");
        checks.due("the constructors", () -> Arrays.toString(RoofDrains.class.getDeclaredConstructors()),
            "[public RoofDrains()]");
        String fields = Arrays.stream(RoofDrains.class.getDeclaredFields())
            .filter(field -> !Modifier.isPrivate(field.getModifiers())).map(Field::toString)
            .collect(Collectors.joining());
        checks.due("the fields", () -> fields, "public static final int RoofDrains.NONE");
    }

    private static String told(Method method) {
        String exceptions = Arrays.stream(method.getExceptionTypes()).map(type -> " " + type.getSimpleName())
            .collect(Collectors.joining());
        boolean ints = Arrays.stream(method.getParameterTypes()).allMatch(type -> type == int.class);
        return method.getName() + " " + (ints ? method.getParameterCount() : "other arguments") + " "
            + method.getReturnType() + exceptions;
    }

    private static void theClassesInside() {
        Set<String> names = FACE.stream().map(told -> told.substring(0, told.indexOf(' '))).collect(Collectors.toSet());
        for (Class<?> inside : RoofDrains.class.getDeclaredClasses()) {
            int modifiers = inside.getModifiers();
            checks.due(inside + " is static", () -> Modifier.isStatic(modifiers), true);
            checks.due(inside + " is not public",
                () -> Modifier.isPublic(modifiers) || Modifier.isProtected(modifiers), false);
            bearsNoName(names, inside.getDeclaredMethods());
        }
        bearsNoName(names, Arrays.stream(RoofDrains.class.getDeclaredMethods())
            .filter(method -> Modifier.isPrivate(method.getModifiers())).toArray(Method[]::new));
    }

    private static void bearsNoName(Set<String> names, Executable[] methods) {
        for (Executable method : methods) {
            checks.due(method + " bears a public name", () -> names.contains(method.getName()), false);
            checks.due(method + " has at most seven parameters", () -> method.getParameterCount() <= 7, true);
        }
    }

    private static void theSource() throws IOException {
        String source = Files.readString(Path.of(SOURCE));
        String[] none = {"\\bpackage\\b", "\\bimport\\b", "\\bcatch\\b", "\\bfinally\\b", "\\bsynchronized\\b",
            "\\bassert\\b", "->", "::", "[a-z]Exact\\b", "\\bRandom\\b", "\\bThread\\b", "\\bSystem\\.(?!arraycopy)",
            "\\bMath\\.(?!min|max)", "\\bDouble\\.(?!doubleToLongBits, so)", "\"\\s*\\+", "\\+\\s*\"", "[^\\x00-\\x7f]"};
        for (String unwanted : none) {
            checks.due("source has " + unwanted, () -> Pattern.compile(unwanted).matcher(source).find(), false);
        }
        for (String method : source.split("\n\n")) {
            checks.due("a piece of the source is longer than 60 lines", () -> method.lines().count() <= 60, true);
        }
    }
}
