/** Promises 9 to 13: the buffer, rain as a text, and undo. */
public final class TextsTest {
    private static final Class<IllegalArgumentException> ARGUMENT = IllegalArgumentException.class;
    private static final Class<IllegalStateException> STATE = IllegalStateException.class;
    private static final Checks checks = new Checks();

    public static void main(String[] args) {
        promise9Append();
        promise10ClearBuffer();
        promise11WholeTexts();
        promise11UnfinishedTexts();
        promise11WrongTexts();
        promise12Play();
        promise12PlayOfSixtyCharacters();
        promise13UndoRestoresAll();
        promise13AtMostSixAreSaved();
        promise13WhatDoesNotSave();
        checks.end("TextsTest");
    }

    private static void promise9Append() {
        RoofDrains x = new RoofDrains();
        checks.due("append(33)", () -> x.append(33), 1);
        checks.due("append(126)", () -> x.append(126), 2);
        checks.refused("append(32)", x, ARGUMENT, () -> x.append(32));
        checks.refused("append(127)", x, ARGUMENT, () -> x.append(127));
        checks.refused("append(-1)", x, ARGUMENT, () -> x.append(-1));
        checks.refused("append('w' + 65536)", x, ARGUMENT, () -> x.append('w' + 65536));
        for (int length = 3; length <= 60; length++) {
            checks.due("append('w')", () -> x.append('w'), length);
        }
        checks.refused("append when full", x, STATE, () -> x.append('w'));
        checks.refused("append(32) when full", x, ARGUMENT, () -> x.append(32));
        checks.due("count(8)", () -> x.count(8), 0);
        checks.due("clearBuffer()", x::clearBuffer, 60);
    }

    private static void promise10ClearBuffer() {
        RoofDrains x = new RoofDrains();
        checks.due("clearBuffer(), empty", x::clearBuffer, 0);
        Checks.type(x, "xyz");
        checks.due("firstError()", x::firstError, 0);
        checks.due("clearBuffer()", x::clearBuffer, 3);
        checks.due("clearBuffer() again", x::clearBuffer, 0);
        checks.due("firstError(), empty", x::firstError, 0);
        checks.due("append behind it", () -> x.append('1'), 1);
        checks.due("count(8)", () -> x.count(8), 0);
    }

    private static void promise11WholeTexts() {
        String[] whole = {"w", "c0", "c5", "0*1", "9*9", "10*10", "99*60", "1*59", "5*6", "w;w", "c3;2*7;w",
            "0*60;0*7;0*50;c1;w"};
        for (String text : whole) {
            RoofDrains x = Checks.typed(text);
            checks.due("firstError() of " + text, x::firstError, text.length());
            checks.due("play() of " + text, () -> x.play() >= 0, true);
            checks.due("clearBuffer() behind play()", x::clearBuffer, 0);
        }
    }

    private static void promise11UnfinishedTexts() {
        String[] unfinished = {"", "0", "9", "10", "5*", "99*", "c", "w;", "c0;", "5*6;", "5*60;", "w;c", "w;1", "w;1*"};
        for (String text : unfinished) {
            RoofDrains x = Checks.typed(text);
            checks.due("firstError() of " + text, x::firstError, text.length());
            checks.refused("play() of " + text, x, ARGUMENT, x::play);
            checks.due("clearBuffer()", x::clearBuffer, text.length());
        }
    }

    private static void promise11WrongTexts() {
        // Behind "!" comes the character that is the first syntax error.
        String[] wrong = {"!x", "!;", "!*", "!W", "0!0", "0!1", "0!;", "1!;", "10!0", "10!;", "10!w", "1!w", "5*!0",
            "5*!;", "5*!*", "5*6!1", "5*6!9", "5*60!0", "5*7!0", "5*9!5", "5*10!0", "5*59!1",
            "5*1!*", "c!6", "c!9", "c!;", "c!c", "c0!0", "c0!w", "w!w", "w!0", "w;!;", "w;5*!0;xx", "w!x;;"};
        for (String marked : wrong) {
            String text = marked.replace("!", "");
            RoofDrains x = Checks.typed(text);
            checks.due("firstError() of " + text, x::firstError, marked.indexOf('!'));
            checks.refused("play() of " + text, x, ARGUMENT, x::play);
        }
    }

    private static void promise12Play() {
        RoofDrains x = Checks.typed("99*2;w;w;c3;0*1;w");
        RoofDrains y = new RoofDrains();
        int spilt = y.rain(99, 2);
        y.weeks(2);
        y.clean(3);
        spilt += y.rain(0, 1);
        y.weeks(1);
        int due = spilt;
        x.rain(99, 3);
        x.undo();
        checks.due("play()", x::play, due);
        for (int what = 0; what < 8; what++) {
            int w = what;
            checks.due("count(" + w + ") behind play()", () -> x.count(w), y.count(w));
        }
        checks.due("count(8) behind play()", () -> x.count(8), 1);
        checks.due("gutterOf(3, 2)", () -> x.gutterOf(3, 2), 4);
        checks.due("gutterOf(2, 2)", () -> x.gutterOf(2, 2), 12);
        checks.due("clearBuffer()", x::clearBuffer, 0);
        checks.due("play() of nothing", x::play, "throws.IllegalArgumentException");
        Checks.type(x, "0*1");
        checks.due("play() counts only what it spills", x::play, y.rain(0, 1));
        checks.due("undo()", x::undo, 1);
        checks.due("undo() again", x::undo, 0);
        checks.due("count(5)", () -> x.count(5), 0);
        checks.due("count(1)", () -> x.count(1), 0);
    }

    private static void promise12PlayOfSixtyCharacters() {
        RoofDrains x = new RoofDrains();
        for (int part = 0; part < 9; part++) {
            Checks.type(x, "10*60;");
        }
        Checks.type(x, "99*6;w");
        checks.due("append when full", () -> x.append('w'), "throws.IllegalStateException");
        checks.due("firstError()", x::firstError, 60);
        checks.due("play() spills", () -> x.play() > 0, true);
        checks.due("count(0)", () -> x.count(0), 546);
        checks.due("count(1)", () -> x.count(1), 1);
        RoofDrains y = new RoofDrains();
        for (int part = 0; part < 30; part++) {
            Checks.type(y, "w;");
        }
        checks.due("firstError() of w;w;..w;", y::firstError, 60);
        checks.refused("play() of w;w;..w;", y, ARGUMENT, y::play);
    }

    private static void promise13UndoRestoresAll() {
        RoofDrains x = new RoofDrains();
        x.set(0, 50);
        x.rain(40, 7);
        x.weeks(9);
        long before = digestButBuffer(x);
        x.append('w');
        x.plane(0, 99, 9, 5);
        checks.due("undo() of plane", x::undo, 3);
        checks.due("digest", () -> digestButBuffer(x), before);
        x.append('w');
        x.gutter(0, 99, 9);
        x.undo();
        checks.due("digest behind gutter", () -> digestButBuffer(x), before);
        x.valley(0, 5);
        x.undo();
        checks.due("digest behind valley", () -> digestButBuffer(x), before);
        x.clean(2);
        x.undo();
        checks.due("digest behind clean", () -> digestButBuffer(x), before);
        x.set(2, 2);
        x.undo();
        checks.due("digest behind set", () -> digestButBuffer(x), before);
        x.rain(99, 33);
        x.undo();
        checks.due("digest behind rain", () -> digestButBuffer(x), before);
        x.weeks(33);
        x.undo();
        checks.due("digest behind weeks", () -> digestButBuffer(x), before);
        Checks.type(x, "99*20;w;c2");
        x.play();
        checks.due("undo() of play", x::undo, 3);
        checks.due("the buffer stays cleared", x::clearBuffer, 0);
        checks.due("digest behind play", () -> digestButBuffer(x), before);
    }

    /** The digest with an empty buffer; what is in it is left out. */
    private static long digestButBuffer(RoofDrains x) {
        x.clearBuffer();
        return x.digest();
    }

    private static void promise13AtMostSixAreSaved() {
        RoofDrains x = new RoofDrains();
        for (int value = 1; value <= 10; value++) {
            x.set(2, value);
            int due = Math.min(value, 6);
            checks.due("count(8)", () -> x.count(8), due);
        }
        for (int left = 5; left >= 3; left--) {
            checks.due("undo()", x::undo, left);
            int due = left + 4;
            checks.due("setting(2)", () -> x.setting(2), due);
        }
        x.set(2, 50);
        checks.due("count(8)", () -> x.count(8), 4);
        checks.due("undo()", x::undo, 3);
        checks.due("setting(2)", () -> x.setting(2), 7);
        for (int left = 2; left >= 0; left--) {
            checks.due("undo()", x::undo, left);
            int due = left + 4;
            checks.due("setting(2)", () -> x.setting(2), due);
        }
        checks.refused("undo() of nothing", x, STATE, x::undo);
    }

    private static void promise13WhatDoesNotSave() {
        RoofDrains x = new RoofDrains();
        x.set(2, 20);
        x.valley(0, -1);
        checks.due("count(8): also what changes nothing is saved", () -> x.count(8), 2);
        Checks.answer(() -> x.plane(6, 0, 0, 0));
        Checks.answer(() -> x.gutter(0, 0, 0));
        Checks.answer(() -> x.valley(0, 0));
        Checks.answer(() -> x.clean(6));
        Checks.answer(() -> x.set(0, -1));
        Checks.answer(() -> x.rain(0, 0));
        Checks.answer(() -> x.weeks(0));
        Checks.answer(x::play);
        x.append('w');
        x.clearBuffer();
        x.firstError();
        x.digest();
        checks.due("count(8)", () -> x.count(8), 2);
    }
}
