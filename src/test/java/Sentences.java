import java.io.IOException;
import java.nio.file.Files;
import java.nio.file.Path;
import java.util.LinkedHashMap;
import java.util.Map;
import java.util.concurrent.Callable;
import java.util.function.IntFunction;

/**
 * Tests that each name a section of the document and one of its sentences. The words must stand in that section, and
 * end() tells what words of the sections that were opened have no test, so that no sentence is forgotten.
 */
final class Sentences {
    private static final Path DOC = Path.of("../shared/DOC.md");

    private final Map<String, String> textOf = new LinkedHashMap<>();
    private final Map<String, String> untested = new LinkedHashMap<>();
    private String section = "";
    private String words = "";
    private int told;
    private int checked;
    private int wrong;

    Sentences() throws IOException {
        String title = "";
        StringBuilder text = new StringBuilder();
        for (String line : Files.readAllLines(DOC)) {
            if (line.startsWith("#")) {
                textOf.put(title, text.toString());
                title = line.replaceFirst("^#+ ", "");
                text.setLength(0);
            } else {
                // The head of a call is tested by FaceTest; here it is what the document says of it that counts.
                text.append(line.replaceFirst("^`[^`]*\\)[^`]*`: ", "")).append('\n');
            }
        }
        textOf.put(title, text.toString());
    }

    void section(String title) {
        section = title;
        words = "";
        if (!textOf.containsKey(title)) {
            fault("the document has no such section");
        }
        untested.put(title, textOf.getOrDefault(title, ""));
    }

    /** A sentence, or the part of one that names a boundary case, and what it asks for. */
    void says(String sentence, Runnable test) {
        words = sentence;
        told++;
        int before = checked;
        takeOut(sentence);
        try {
            test.run();
        } catch (RuntimeException e) {
            fault("the test was ended by " + e);
        }
        if (checked == before) {
            fault("the test checked nothing");
        }
    }

    /** Words that promise nothing that a call could show. */
    void leavesOpen(String sentence) {
        words = sentence;
        takeOut(sentence);
    }

    private void takeOut(String sentence) {
        if (!textOf.getOrDefault(section, "").contains(sentence)) {
            fault("the section does not say so");
        }
        untested.put(section, untested.getOrDefault(section, "").replace(sentence, " "));
    }

    void due(String what, Callable<Object> call, Object want) {
        checked++;
        Object got = Checks.answer(call);
        if (!want.equals(got)) {
            fault(what + " answered " + got + ", due is " + want);
        }
    }

    /** The call throws, and nothing that can be seen is changed by it. */
    void refused(String what, RoofDrains x, Class<? extends Exception> exception, Callable<Object> call) {
        long before = x.digest();
        due(what, call, "throws." + exception.getSimpleName());
        due(what + ", digest behind it", x::digest, before);
    }

    /** One below the range, one above it, and the least and the greatest of all ints are refused. */
    void refusedOutside(String what, int least, int most, RoofDrains x, Class<? extends Exception> exception,
            IntFunction<Object> call) {
        for (int value : new int[] {least - 1, most + 1, Integer.MIN_VALUE, Integer.MAX_VALUE}) {
            refused(what + " " + value, x, exception, () -> call.apply(value));
        }
    }

    /** The call saves one state, of fewer than six, and undo restores all but the buffer. */
    void undoable(String what, RoofDrains x, Callable<Object> call) {
        x.clearBuffer();
        int states = x.count(8);
        long before = x.digest();
        Checks.answer(call);
        due(what + ", states behind it", () -> x.count(8), states + 1);
        due(what + ", undo() behind it", x::undo, states);
        x.clearBuffer();
        due(what + ", digest behind undo()", x::digest, before);
    }

    private void fault(String text) {
        wrong++;
        System.out.println(section + ", \"" + words + "\": " + text);
    }

    void end(String name) {
        for (Map.Entry<String, String> entry : untested.entrySet()) {
            String rest = entry.getValue().trim().replaceAll("\\s+", " ");
            if (rest.matches(".*[A-Za-z].*")) {
                wrong++;
                System.out.println(entry.getKey() + ": no test for: " + rest);
            }
        }
        System.out.println(name + ": " + told + " sentences, " + checked + " checks, " + wrong + " wrong");
        if (wrong != 0) {
            System.exit(1);
        }
    }
}
