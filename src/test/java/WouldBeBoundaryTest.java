import java.io.IOException;
import java.math.BigInteger;
import java.util.ArrayList;
import java.util.List;

/** Each sentence of promises 18 to 24 that names a boundary case, with a test of its own. */
public final class WouldBeBoundaryTest {
    private static final Class<IllegalArgumentException> ARGUMENT = IllegalArgumentException.class;
    private static final int NONE = RoofDrains.NONE;

    private final Sentences s;

    private WouldBeBoundaryTest(Sentences sentences) {
        s = sentences;
    }

    public static void main(String[] args) throws IOException {
        Sentences sentences = new Sentences();
        WouldBeBoundaryTest test = new WouldBeBoundaryTest(sentences);
        test.promise18();
        test.promise19();
        test.promise20();
        test.promise21();
        test.promise22();
        test.promise23();
        test.promise24();
        sentences.end("WouldBeBoundaryTest");
    }

    /** A gutter that never drains, behind a plane that brings a litre by each tenth of rain. */
    private static RoofDrains shutGutter(int gutter, int size) {
        RoofDrains x = Checks.onePlane(10, gutter);
        x.gutter(gutter, size, 0);
        return x;
    }

    private void promise18() {
        s.section("Promise 18: ifRained");
        s.says("Tells what a rain of setting 2 would bring.", this::byTheRainThoughtOf);
        s.says("- `minutes`: 1 to 60", () -> {
            for (int minutes : new int[] {1, 2, 59, 60}) {
                RoofDrains x = shutGutter(0, 10);
                x.set(2, 1);
                s.due("spilt in " + minutes, () -> x.ifRained(minutes, 0), Math.max(0, minutes - 10));
                s.due("drained in " + minutes, () -> x.ifRained(minutes, 1), 0);
                s.due("standing behind " + minutes, () -> x.ifRained(minutes, 2), Math.min(10, minutes));
            }
        });
        s.says("- `what`: 0: litres that would be spilt; 1: litres that would be drained; 2: litres that would stand then",
            this::notWhatWasSoFar);
        s.says("Returns the number.", () -> {
            RoofDrains x = new RoofDrains();
            s.due("spilt", () -> x.ifRained(2, 0), 100);
            s.due("drained", () -> x.ifRained(2, 1), 200);
            s.due("standing", () -> x.ifRained(2, 2), 660);
            s.due("standing, again", () -> x.ifRained(2, 2), 660);
            s.due("minutes", () -> x.count(0), 0);
            s.due("states", () -> x.count(8), 0);
        });
        s.says("Throws `IllegalArgumentException` if minutes or what is out of range", () -> {
            RoofDrains x = new RoofDrains();
            for (int what = 0; what < 3; what++) {
                int w = what;
                s.refusedOutside("minutes", 1, 60, x, ARGUMENT, minutes -> x.ifRained(minutes, w));
            }
            s.refusedOutside("what", 0, 2, x, ARGUMENT, what -> x.ifRained(1, what));
            s.refused("both", x, ARGUMENT, () -> x.ifRained(61, 3));
        });
    }

    private void byTheRainThoughtOf() {
        for (int rain : new int[] {0, 1, 98, 99}) {
            RoofDrains x = shutGutter(0, 500);
            x.set(2, rain);
            s.due("standing behind a minute", () -> x.ifRained(1, 2), rain);
            s.due("standing behind 5 minutes", () -> x.ifRained(5, 2), 5 * rain);
        }
        RoofDrains above = shutGutter(0, 50);
        above.rain(50, 1);
        above.set(2, 0);
        above.weeks(25);
        s.due("what is above its room is spilt without rain", () -> above.ifRained(1, 0), 50);
    }

    private void notWhatWasSoFar() {
        RoofDrains x = Checks.onePlane(100, 0);
        x.rain(99, 60);
        s.due("spilt", () -> x.ifRained(1, 0), 200 - 20);
        s.due("drained", () -> x.ifRained(1, 1), 20);
        s.due("standing", () -> x.ifRained(1, 2), 60);
        x.set(2, 0);
        s.due("spilt by none", () -> x.ifRained(60, 0), 0);
        s.due("drained of 60", () -> x.ifRained(60, 1), 60);
        s.due("standing behind 2 of 3", () -> x.ifRained(2, 2), 20);
        s.due("standing behind 3", () -> x.ifRained(3, 2), 0);
    }

    private void promise19() {
        s.section("Promise 19: spillsFirst");
        s.says("Finds the gutter that would spill first in a rain of setting 2.", this::theFirstThatSpills);
        s.says("- `what`: 0: the gutter, of several in the same minute the lowest; 1: in which minute, 1 to 60",
            this::lowestAndMinute);
        s.says("Returns the number, NONE if none would spill in 60 minutes.", this::sixtyMinutes);
        s.says("Throws `IllegalArgumentException` if what is not 0 or 1", () -> {
            RoofDrains x = new RoofDrains();
            s.refusedOutside("what", 0, 1, x, ARGUMENT, x::spillsFirst);
        });
    }

    private void spills(String what, RoofDrains x, int gutter, int minute) {
        s.due(what + ", gutter", () -> x.spillsFirst(0), gutter);
        s.due(what + ", minute", () -> x.spillsFirst(1), minute);
    }

    /** Not what was spilt before, and not a gutter whose water goes into its valley. */
    private void theFirstThatSpills() {
        RoofDrains x = shutGutter(0, 40);
        x.plane(5, 10, 9, 5);
        x.gutter(5, 40, 0);
        spills("both in the same minute", x, 0, 3);
        x.gutter(5, 39, 0);
        spills("the highest, a minute earlier", x, 5, 2);
        x.gutter(5, 19, 0);
        spills("the highest, two minutes earlier", x, 5, 1);
        x.rain(99, 60);
        x.gutter(0, 500, 0);
        x.gutter(5, 500, 0);
        spills("behind a spill", x, 0, 24);
        RoofDrains valley = shutGutter(0, 40);
        valley.valley(0, 3);
        valley.gutter(3, 10, 0);
        spills("the one below the valley", valley, 3, 3);
        valley.valley(3, 4);
        valley.gutter(4, 10, 0);
        spills("one more below", valley, 4, 4);
    }

    private void lowestAndMinute() {
        for (int lowest = 0; lowest < 6; lowest++) {
            RoofDrains x = new RoofDrains();
            for (int n = 0; n < 6; n++) {
                x.plane(n, n < lowest ? 0 : 10, 9, n);
            }
            x.set(0, 0);
            spills("all from " + lowest + " on", x, lowest, 4);
        }
        RoofDrains first = shutGutter(5, 19);
        spills("in the first minute", first, 5, 1);
        first.gutter(5, 20, 0);
        spills("in the second minute", first, 5, 2);
    }

    private void sixtyMinutes() {
        RoofDrains x = shutGutter(2, 59);
        x.set(2, 1);
        spills("60 litres in 59", x, 2, 60);
        x.gutter(2, 60, 0);
        spills("60 litres in 60", x, NONE, NONE);
        x.set(2, 0);
        spills("no rain", x, NONE, NONE);
        spills("a dry roof without rain", dryRoof(), NONE, NONE);
        RoofDrains above = shutGutter(2, 50);
        above.rain(50, 1);
        above.set(2, 0);
        above.weeks(1);
        spills("above its room, without rain", above, 2, 1);
    }

    private static RoofDrains dryRoof() {
        RoofDrains x = new RoofDrains();
        x.set(2, 0);
        return x;
    }

    private void promise20() {
        s.section("Promise 20: bestClean");
        s.leavesOpen("Finds the gutter that had best be cleaned.");
        s.says("Returns of the gutters with leaves the one with which, cleaned,", this::onlyThoseWithLeaves);
        s.says("least would be spilt in 30 minutes of a rain of setting 2,", this::leastInThirtyMinutes);
        s.says("of several the lowest;", this::theLowestOfSeveral);
        s.says("NONE if no gutter has leaves.", () -> {
            RoofDrains x = new RoofDrains();
            x.set(2, 99);
            s.due("a new object", x::bestClean, NONE);
            x.set(1, 0);
            x.weeks(52);
            s.due("weeks without leaves", x::bestClean, NONE);
            x.set(1, 1);
            x.weeks(1);
            s.due("with leaves", x::bestClean, 0);
            for (int gutter = 0; gutter < 6; gutter++) {
                x.clean(gutter);
            }
            s.due("all cleaned", x::bestClean, NONE);
        });
    }

    /** A hundredth is enough, also if it makes no difference; a clean gutter never is the answer. */
    private void onlyThoseWithLeaves() {
        for (int only = 0; only < 6; only++) {
            RoofDrains x = Checks.onePlane(200, (only + 1) % 6);
            x.set(1, 1);
            x.weeks(1);
            for (int gutter = 0; gutter < 6; gutter++) {
                if (gutter != only) {
                    x.clean(gutter);
                }
            }
            s.due("only gutter " + only + " has leaves", x::bestClean, only);
        }
    }

    /**
     * All have 50 hundredths of leaves. Gutter 0 cleaned holds a litre, not 0, and takes 3, not 1: 61 litres fewer are
     * spilt in 30 minutes. Gutter 1 never drains; cleaned, it holds half its size more.
     */
    private void leastInThirtyMinutes() {
        RoofDrains x = Checks.onePlane(100, 0);
        x.plane(1, 100, 9, 1);
        x.set(0, 600);
        x.set(1, 50);
        x.set(2, 99);
        x.weeks(1);
        x.gutter(0, 1, 3);
        x.gutter(1, 120, 0);
        s.due("61 litres fewer against 60", x::bestClean, 0);
        x.gutter(1, 122, 0);
        s.due("61 litres fewer against 61", x::bestClean, 0);
        x.gutter(1, 123, 0);
        s.due("61 litres fewer against 62", x::bestClean, 1);
        x.set(2, 0);
        s.due("by rain 0 none is better", x::bestClean, 0);
    }

    private void theLowestOfSeveral() {
        RoofDrains x = new RoofDrains();
        x.set(2, 0);
        x.weeks(25);
        for (int gutter = 0; gutter < 5; gutter++) {
            s.due("nothing spilt by any", x::bestClean, gutter);
            x.clean(gutter);
        }
        s.due("nothing spilt by the last", x::bestClean, 5);
        RoofDrains y = Checks.onePlane(50, 4);
        y.plane(1, 50, 9, 2);
        y.weeks(10);
        s.due("2 as good as 4, and better than 0 and 1", y::bestClean, 2);
    }

    private void promise21() {
        s.section("Promise 21: mostRain");
        s.leavesOpen("Finds the greatest rain that is not too much.");
        s.says("- `minutes`: 1 to 60", () -> {
            RoofDrains x = shutGutter(3, 60);
            int[][] minutesRain = {{1, 60}, {2, 30}, {30, 2}, {31, 1}, {59, 1}, {60, 1}};
            for (int[] row : minutesRain) {
                s.due("mostRain(" + row[0] + ")", () -> x.mostRain(row[0]), row[1]);
            }
            x.gutter(3, 59, 0);
            s.due("mostRain(59), a litre smaller", () -> x.mostRain(59), 1);
            s.due("mostRain(60), a litre smaller", () -> x.mostRain(60), 0);
        });
        s.says("Returns the greatest rain, 0 to 99, of so many minutes in which nothing would be spilt;",
            this::theGreatestRain);
        s.says("NONE if something would be by 0.", this::tooMuchByNone);
        s.says("Throws `IllegalArgumentException` if minutes is out of range", () -> {
            RoofDrains x = new RoofDrains();
            s.refusedOutside("minutes", 1, 60, x, ARGUMENT, x::mostRain);
        });
    }

    /** A gutter of so many litres holds a minute of as many tenths; what goes into a valley is not spilt. */
    private void theGreatestRain() {
        int[][] sizeRain = {{1, 1}, {2, 2}, {97, 97}, {98, 98}, {99, 99}, {100, 99}, {500, 99}};
        for (int[] row : sizeRain) {
            RoofDrains x = shutGutter(5, row[0]);
            s.due("size " + row[0], () -> x.mostRain(1), row[1]);
        }
        RoofDrains full = shutGutter(5, 50);
        full.rain(99, 1);
        s.due("full, and spilt before", () -> full.mostRain(1), 0);
        s.due("full, an hour", () -> full.mostRain(60), 0);
        RoofDrains valley = shutGutter(0, 10);
        valley.valley(0, 1);
        valley.gutter(1, 20, 0);
        s.due("with a valley", () -> valley.mostRain(1), 30);
        RoofDrains noPlane = Checks.onePlane(0, 0);
        s.due("no rain comes to planes", () -> noPlane.mostRain(60), 99);
        noPlane.set(2, 0);
        s.due("it is not the rain of setting 2", () -> noPlane.mostRain(60), 99);
    }

    private void tooMuchByNone() {
        RoofDrains x = shutGutter(5, 50);
        x.rain(50, 1);
        s.due("just full", () -> x.mostRain(60), 0);
        x.gutter(5, 49, 0);
        s.due("a litre too much", () -> x.mostRain(1), NONE);
        s.due("a litre too much, an hour", () -> x.mostRain(60), NONE);
        x.gutter(5, 49, 1);
        s.due("a litre too much, which goes down first", () -> x.mostRain(1), 0);
    }

    private void promise22() {
        s.section("Promise 22: dryIn");
        s.leavesOpen("Tells how long it would drip.");
        s.says("Returns behind how many minutes of rain 0 no water would stand, 0 to 300;", this::minutesToDry);
        s.says("NONE if not behind 300.", this::neverDry);
    }

    /** So many litres stand in a gutter whose downpipe takes one in a minute. */
    private static RoofDrains slowGutter(int litres) {
        RoofDrains x = Checks.onePlane(100, 0);
        x.gutter(0, 500, 0);
        x.rain(10, litres / 100);
        x.plane(0, litres % 100, 9, 0);
        x.rain(10, 1);
        x.gutter(0, 500, 1);
        return x;
    }

    private void minutesToDry() {
        s.due("a dry roof", () -> new RoofDrains().dryIn(), 0);
        for (int litres : new int[] {100, 101, 299, 300}) {
            s.due("litres " + litres, () -> slowGutter(litres).dryIn(), litres);
        }
        RoofDrains onPlane = Checks.onePlane(2, 0);
        onPlane.plane(0, 2, 0, 0);
        onPlane.rain(10, 1);
        s.due("a litre on a plane", onPlane::dryIn, 1);
        RoofDrains spilt = shutGutter(1, 50);
        spilt.rain(50, 1);
        spilt.weeks(25);
        s.due("what is spilt does not stand", spilt::dryIn, 1);
        spilt.rain(0, 1);
        s.due("dry by that", spilt::dryIn, 0);
        RoofDrains noRain = slowGutter(100);
        noRain.set(2, 99);
        s.due("rain 0, not that of setting 2", noRain::dryIn, 100);
    }

    private void neverDry() {
        s.due("301 litres", () -> slowGutter(301).dryIn(), NONE);
        s.due("400 litres", () -> slowGutter(400).dryIn(), NONE);
        RoofDrains shut = shutGutter(0, 1);
        shut.rain(1, 1);
        s.due("a litre, no bore", shut::dryIn, NONE);
        shut.gutter(0, 1, 1);
        s.due("a litre, bore 1", shut::dryIn, 1);
        shut.set(0, 0);
        s.due("a litre, no drain", shut::dryIn, NONE);
    }

    private void promise23() {
        s.section("Promise 23: drainedShare");
        s.leavesOpen("Returns how much of the rain was drained.");
        s.says("Returns the litres that were drained so far, as a double, divided by the litres of rain so far;",
            this::shares);
        s.says("1.0 if there was none.", () -> {
            RoofDrains x = new RoofDrains();
            s.due("a new object", x::drainedShare, 1.0);
            x.rain(0, 60);
            s.due("rain 0", x::drainedShare, 1.0);
            RoofDrains little = Checks.onePlane(9, 0);
            little.rain(1, 60);
            s.due("less than a litre", little::drainedShare, 1.0);
            little.set(0, 0);
            little.rain(2, 1);
            s.due("a litre that is not drained", little::drainedShare, 0.0);
            little.undo();
            s.due("undone", little::drainedShare, 1.0);
        });
    }

    private void shares() {
        for (int bore = 0; bore <= 3; bore++) {
            RoofDrains x = shutGutter(0, 1);
            x.gutter(0, 1, bore);
            x.rain(3, 1);
            s.due("of 3 litres " + bore, x::drainedShare, bore / 3.0);
        }
        RoofDrains later = shutGutter(0, 60);
        later.rain(30, 1);
        later.gutter(0, 60, 10);
        later.rain(0, 2);
        s.due("drained behind the rain", later::drainedShare, 20.0 / 30.0);
        later.rain(0, 60);
        s.due("all drained", later::drainedShare, 1.0);
        RoofDrains least = Checks.onePlane(200, 0);
        least.gutter(0, 1, 1);
        least.rain(99, 60);
        s.due("a small share", least::drainedShare, 60.0 / (60.0 * 1980.0));
    }

    private void promise24() {
        s.section("Promise 24: digest");
        s.says("Computes a hash of the whole state.", this::aHashOfTheState);
        s.says("The hash starts at 3067. For each value v of the following list, in order, the hash becomes 31 * hash + v, "
            + "in long arithmetic with overflow.", () -> digestIs("new", new RoofDrains(), ""));
        s.says("The values are: count(0) to count(8); the settings 0 to 2; for each plane its numbers 0 to 3; for each "
            + "gutter its numbers 0 to 8;", this::digestsOfRoofs);
        s.says("ifRained of 20 with 0 to 2; spillsFirst with 0 and 1; bestClean; mostRain of 10; dryIn;",
            this::digestsOfWhatWouldBe);
        s.says("the bits of drainedShare (as Double.doubleToLongBits);", this::digestsOfShares);
        s.says("the length of the buffer and each of its character codes.", this::digestsOfBuffers);
        s.says("Returns the hash.", () -> {
            RoofDrains x = new RoofDrains();
            long hash = hashOf(x, "");
            s.due("digest()", x::digest, hash);
            s.due("digest() again", x::digest, hash);
            s.due("digest() of another object", () -> new RoofDrains().digest(), hash);
        });
    }

    private void aHashOfTheState() {
        RoofDrains x = new RoofDrains();
        long before = x.digest();
        x.weeks(1);
        s.due("another state", () -> x.digest() == before, false);
        x.undo();
        s.due("the same state", x::digest, before);
    }

    /** The hash by the looks, in numbers without bounds, of which only at the end the last 64 bits are taken. */
    private static long hashOf(RoofDrains x, String buffer) {
        List<Long> values = new ArrayList<>();
        for (int what = 0; what <= 8; what++) {
            values.add((long) x.count(what));
        }
        for (int setting = 0; setting <= 2; setting++) {
            values.add((long) x.setting(setting));
        }
        for (int plane = 0; plane <= 5; plane++) {
            for (int what = 0; what <= 3; what++) {
                values.add((long) x.planeOf(plane, what));
            }
        }
        for (int gutter = 0; gutter <= 5; gutter++) {
            for (int what = 0; what <= 8; what++) {
                values.add((long) x.gutterOf(gutter, what));
            }
        }
        for (int what = 0; what <= 2; what++) {
            values.add((long) x.ifRained(20, what));
        }
        values.add((long) x.spillsFirst(0));
        values.add((long) x.spillsFirst(1));
        values.add((long) x.bestClean());
        values.add((long) x.mostRain(10));
        values.add((long) x.dryIn());
        values.add(Double.doubleToLongBits(x.drainedShare()));
        values.add((long) buffer.length());
        for (char sign : buffer.toCharArray()) {
            values.add((long) sign);
        }
        BigInteger hash = BigInteger.valueOf(3067);
        for (long value : values) {
            hash = hash.multiply(BigInteger.valueOf(31)).add(BigInteger.valueOf(value));
        }
        return hash.longValue();
    }

    private void digestIs(String what, RoofDrains x, String buffer) {
        s.due("digest(), " + what, x::digest, hashOf(x, buffer));
    }

    private void digestsOfRoofs() {
        RoofDrains x = new RoofDrains();
        for (int n = 0; n < 6; n++) {
            x.plane(n, 200 - n, 9 - n, 5 - n);
            x.gutter(n, 500 - n, 99 - n);
        }
        x.valley(0, 5);
        x.valley(4, 3);
        digestIs("dry", x, "");
        x.rain(99, 60);
        digestIs("wet", x, "");
        x.weeks(52);
        x.set(0, 600);
        x.set(1, 50);
        x.set(2, 99);
        digestIs("full of leaves", x, "");
        RoofDrains longRun = Checks.onePlane(200, 0);
        for (int call = 0; call < 100; call++) {
            longRun.rain(99, 60);
        }
        digestIs("behind much rain", longRun, "");
    }

    private void digestsOfWhatWouldBe() {
        RoofDrains shut = shutGutter(2, 199);
        shut.set(2, 10);
        digestIs("spills in minute 20", shut, "");
        shut.gutter(2, 200, 0);
        digestIs("spills in minute 21", shut, "");
        shut.gutter(2, 109, 0);
        digestIs("mostRain of 10 and of 11 differ", shut, "");
        shut.gutter(2, 99, 0);
        digestIs("mostRain of 9 and of 10 differ", shut, "");
        shut.set(2, 0);
        digestIs("none spills", shut, "");
        shut.rain(9, 10);
        digestIs("never dry", shut, "");
        shut.weeks(13);
        digestIs("above its room", shut, "");
        digestIs("dry in 300 minutes", slowGutter(300), "");
    }

    private void digestsOfShares() {
        int[][] drainBore = {{0, 0}, {600, 99}, {600, 1}, {600, 7}, {600, 50}, {600, 33}};
        for (int[] row : drainBore) {
            RoofDrains x = Checks.onePlane(99, 0);
            x.set(0, row[0]);
            x.gutter(0, 1, row[1]);
            x.rain(10, 1);
            digestIs("share " + row[1] + " of 99", x, "");
            x.rain(99, 60);
            digestIs("a smaller share", x, "");
        }
    }

    private void digestsOfBuffers() {
        for (String buffer : new String[] {"", "w", "!", "~", "~!", "w;", "!".repeat(59), "~".repeat(60)}) {
            RoofDrains x = Checks.typed(buffer);
            digestIs("buffer " + buffer, x, buffer);
            x.clearBuffer();
            digestIs("cleared", x, "");
            x.append('c');
            digestIs("another buffer", x, "c");
        }
    }
}
