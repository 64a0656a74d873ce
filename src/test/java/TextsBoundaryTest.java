import java.io.IOException;

/** Each sentence of promises 9 to 13 that names a boundary case, with a test of its own. */
public final class TextsBoundaryTest {
    private static final Class<IllegalArgumentException> ARGUMENT = IllegalArgumentException.class;
    private static final Class<IllegalStateException> STATE = IllegalStateException.class;

    private final Sentences s;

    private TextsBoundaryTest(Sentences sentences) {
        s = sentences;
    }

    public static void main(String[] args) throws IOException {
        Sentences sentences = new Sentences();
        TextsBoundaryTest test = new TextsBoundaryTest(sentences);
        test.promise9();
        test.promise10();
        test.promise11();
        test.promise12();
        test.promise13();
        sentences.end("TextsBoundaryTest");
    }

    private void promise9() {
        s.section("Promise 9: append");
        s.says("Appends a character to the buffer.", this::appendsAtTheEnd);
        s.says("- `code`: the character code, 33 to 126", this::everyCode);
        s.says("Returns the new length of the buffer.", () -> {
            RoofDrains x = new RoofDrains();
            for (int length = 1; length <= 60; length++) {
                s.due("append", () -> x.append('~'), length);
            }
            x.clearBuffer();
            s.due("append to an empty buffer", () -> x.append('~'), 1);
        });
        s.says("Throws `IllegalArgumentException` if code is not 33 to 126", () -> {
            RoofDrains x = Checks.typed("w;");
            s.refusedOutside("append", 33, 126, x, ARGUMENT, x::append);
            for (int code : new int[] {0, 'w' + 256, 'w' + 65536, -'w', 255}) {
                s.refused("append(" + code + ")", x, ARGUMENT, () -> x.append(code));
            }
        });
        s.says("Throws `IllegalStateException` if the buffer has 60 characters", this::fullBuffer);
    }

    private void appendsAtTheEnd() {
        RoofDrains x = Checks.typed("0*");
        s.due("firstError() of 0*", x::firstError, 2);
        x.append('0');
        s.due("firstError() of 0*0", x::firstError, 2);
        s.due("the length", x::clearBuffer, 3);
        Checks.type(x, "0*1");
        s.due("play() of 0*1", x::play, 0);
    }

    private void everyCode() {
        for (int code = 33; code <= 126; code++) {
            RoofDrains x = new RoofDrains();
            Model model = new Model();
            int c = code;
            s.due("append(" + c + ")", () -> x.append(c), 1);
            model.append(c);
            s.due("digest with " + c, x::digest, model.digest());
        }
    }

    private void fullBuffer() {
        RoofDrains x = Checks.typed("w;".repeat(29) + "w");
        s.due("append to 59", () -> x.append(';'), 60);
        s.refused("append to 60", x, STATE, () -> x.append('w'));
        s.refused("append to 60 again", x, STATE, () -> x.append(33));
        s.due("clearBuffer()", x::clearBuffer, 60);
        s.due("append behind it", () -> x.append('w'), 1);
    }

    private void promise10() {
        s.section("Promise 10: clearBuffer");
        s.says("Clears the buffer.", () -> {
            RoofDrains x = Checks.typed("xyz");
            x.clearBuffer();
            s.due("firstError()", x::firstError, 0);
            s.refused("play()", x, ARGUMENT, x::play);
            Checks.type(x, "w");
            s.due("play() of w alone", x::play, 0);
            s.due("states", () -> x.count(8), 1);
        });
        s.says("Returns the length that it had.", () -> {
            for (int length : new int[] {0, 1, 2, 59, 60}) {
                RoofDrains x = Checks.typed("w".repeat(length));
                s.due("clearBuffer()", x::clearBuffer, length);
                s.due("clearBuffer() again", x::clearBuffer, 0);
            }
        });
    }

    private void promise11() {
        s.section("Promise 11: firstError");
        s.says("Finds the first syntax error of the buffer.", () -> {
            errorIs("c9;c9;w", 1);
            errorIs("w;0*0;!", 4);
            errorIs("!!", 0);
        });
        s.says("Returns the index of the first character that is a syntax error;", () -> {
            errorIs("!", 0);
            errorIs(";", 0);
            errorIs("w!", 1);
            errorIs("0*1!w;w", 3);
            errorIs("w;".repeat(29) + "w!", 59);
            errorIs("w;".repeat(29) + "c;", 59);
            errorIs("!" + "w".repeat(59), 0);
        });
        s.says("the length of the buffer if there is none.", () -> {
            errorIs("", 0);
            errorIs("w", 1);
            errorIs("c", 1);
            errorIs("9", 1);
            errorIs("0*", 2);
            errorIs("w;", 2);
            errorIs("99*60", 5);
            errorIs("w;".repeat(29) + "c0", 60);
            errorIs("w;".repeat(29) + "w;", 60);
            errorIs("w;".repeat(28) + "w;1*", 60);
        });
    }

    private void errorIs(String text, int due) {
        RoofDrains x = Checks.typed(text);
        s.due("firstError() of " + text, x::firstError, due);
        s.due("firstError() again", x::firstError, due);
        s.due("the buffer is as it was", x::clearBuffer, text.length());
    }

    private void promise12() {
        s.section("Promise 12: play");
        s.says("Does what is in the buffer, one part after the other,", this::partAfterPart);
        s.says("and clears the buffer.", () -> {
            for (String text : new String[] {"w", "0*1", "w;".repeat(29) + "c0"}) {
                RoofDrains x = Checks.typed(text);
                x.play();
                s.due("the length", x::clearBuffer, 0);
                s.refused("play() again", x, ARGUMENT, x::play);
            }
        });
        s.says("Undoable, as one call.", this::playIsOneCall);
        s.says("Returns the litres that are spilt by it.", this::spiltByIt);
        s.says("Throws `IllegalArgumentException` if the buffer is not complete rain as a text", () -> {
            for (String text : new String[] {"", "0", "10", "0*", "c", "w;", "0*1;", "c5;", "w;c", "w;9*", "!", "w!", "ww",
                "0*0", "0*61", "100*1", "00*1", "0*01", "c6", "w;;w", ";w", "w;".repeat(30), "w;!;w"}) {
                RoofDrains x = Checks.typed(text);
                s.refused("play() of " + text, x, ARGUMENT, x::play);
                s.due("the length", x::clearBuffer, text.length());
            }
        });
    }

    /** In another order these parts would end in other numbers. */
    private void partAfterPart() {
        RoofDrains x = Checks.typed("w;c5;w");
        x.play();
        s.due("leaves of gutter 5", () -> x.gutterOf(5, 2), 4);
        s.due("leaves of gutter 4", () -> x.gutterOf(4, 2), 8);
        Checks.type(x, "c0;c5;w;w;c4");
        x.play();
        s.due("leaves of gutter 0", () -> x.gutterOf(0, 2), 8);
        s.due("leaves of gutter 5", () -> x.gutterOf(5, 2), 8);
        s.due("leaves of gutter 4", () -> x.gutterOf(4, 2), 0);
        s.due("weeks", () -> x.count(1), 4);
        RoofDrains y = Checks.onePlane(10, 0);
        Checks.type(y, "99*1;0*60;1*59;w;9*1;10*10");
        y.play();
        s.due("litres of rain", () -> y.count(2), 99 + 59 + 9 + 100);
        s.due("minutes", () -> y.count(0), 1 + 60 + 59 + 1 + 10);
        RoofDrains full = Checks.typed("w;".repeat(29) + "c3");
        full.play();
        s.due("29 weeks", () -> full.count(1), 29);
        s.due("leaves of gutter 3", () -> full.gutterOf(3, 2), 0);
        s.due("leaves of gutter 2", () -> full.gutterOf(2, 2), 100);
    }

    private void playIsOneCall() {
        RoofDrains x = new RoofDrains();
        x.rain(20, 3);
        x.clearBuffer();
        long before = x.digest();
        Checks.type(x, "99*60;w;c0;w;0*1");
        x.play();
        s.due("states behind play()", () -> x.count(8), 2);
        s.due("undo()", x::undo, 1);
        s.due("digest behind undo()", x::digest, before);
        Checks.type(x, "c0");
        x.play();
        s.due("states behind play() that changes nothing", () -> x.count(8), 2);
        s.due("undo()", x::undo, 1);
        s.due("digest behind undo()", x::digest, before);
    }

    private void spiltByIt() {
        RoofDrains x = Checks.onePlane(80, 0);
        Checks.type(x, "10*1;w;c0");
        s.due("play() of just nothing", x::play, 0);
        Checks.type(x, "10*2;0*60;10*2");
        s.due("play() of two storms", x::play, 120 + 60);
        Checks.type(x, "w;c0;w");
        s.due("play() without minutes", x::play, 0);
        s.due("count(5)", () -> x.count(5), 180);
    }

    private void promise13() {
        s.section("Promise 13: undo");
        s.says("Restores the latest saved state, and drops it.", this::theLatestState);
        s.says("Returns how many saved states are left.", () -> {
            RoofDrains x = new RoofDrains();
            for (int value = 0; value < 9; value++) {
                x.set(0, value);
            }
            for (int left = 5; left >= 0; left--) {
                s.due("undo()", x::undo, left);
                s.due("count(8)", () -> x.count(8), left);
            }
        });
        s.says("Throws `IllegalStateException` if there is none", () -> {
            RoofDrains x = new RoofDrains();
            s.refused("undo() of a new object", x, STATE, x::undo);
            Checks.answer(() -> x.set(0, 601));
            s.refused("undo() behind a refused call", x, STATE, x::undo);
            x.set(0, 600);
            s.due("undo()", x::undo, 0);
            s.refused("undo() behind undo()", x, STATE, x::undo);
            for (int value = 0; value < 7; value++) {
                x.set(0, value);
            }
            for (int left = 5; left >= 0; left--) {
                s.due("undo()", x::undo, left);
            }
            s.refused("undo() of the seventh state", x, STATE, x::undo);
            s.due("setting(0)", () -> x.setting(0), 0);
        });
    }

    /** Undo is not undone, and a call behind it takes the place of what it dropped. */
    private void theLatestState() {
        RoofDrains x = new RoofDrains();
        x.set(0, 1);
        x.set(0, 2);
        x.set(0, 3);
        int[] due = {2, 1, 100};
        s.due("undo()", x::undo, 2);
        s.due("setting(0)", () -> x.setting(0), due[0]);
        x.set(0, 4);
        s.due("undo()", x::undo, 2);
        s.due("setting(0), again", () -> x.setting(0), due[0]);
        s.due("undo()", x::undo, 1);
        s.due("setting(0), one before", () -> x.setting(0), due[1]);
        s.due("undo()", x::undo, 0);
        s.due("setting(0), at first", () -> x.setting(0), due[2]);
    }
}
