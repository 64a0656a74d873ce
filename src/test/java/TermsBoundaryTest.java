import java.io.IOException;
import java.util.concurrent.Callable;

/** Each sentence of "Terms" and "The public face" that names a boundary case, with a test of its own. */
public final class TermsBoundaryTest {
    private static final Class<IndexOutOfBoundsException> INDEX = IndexOutOfBoundsException.class;
    private static final Class<IllegalArgumentException> ARGUMENT = IllegalArgumentException.class;
    private static final Class<IllegalStateException> STATE = IllegalStateException.class;
    private static final int NONE = RoofDrains.NONE;

    private final Sentences s;

    private TermsBoundaryTest(Sentences sentences) {
        s = sentences;
    }

    public static void main(String[] args) throws IOException {
        Sentences sentences = new Sentences();
        TermsBoundaryTest test = new TermsBoundaryTest(sentences);
        test.whatItIs();
        test.terms();
        test.aMinute();
        test.settings();
        test.inputText();
        test.undo();
        test.exceptions();
        sentences.end("TermsBoundaryTest");
    }

    private void whatItIs() {
        s.section("What it is");
        s.leavesOpen("Roof drains with valleys, gutters, leaves and downpipes that back up: planes of a roof that send "
            + "rain into gutters by their slope, gutters that run from one to the next, leaves that gather week by week "
            + "and narrow them, downpipes with a bore that take so much, water that stands in gutters and flows over at "
            + "their rims, valleys that bring what is too much to another gutter, gutters that are cleaned, storms "
            + "minute by minute, water that adds up, the gutter that spills first, what cleaning would save, rain as "
            + "texts with errors by place, and undo.");
        s.says("An object is used for at most 512 calls after it has been made; what later calls answer is free.",
            this::theLastOfAllCalls);
    }

    /** The greatest rain in every call but six: the counts stay far within an int, also at the last call. */
    private void theLastOfAllCalls() {
        for (int what = 0; what < 7; what++) {
            RoofDrains x = new RoofDrains();
            for (int plane = 0; plane < 6; plane++) {
                x.plane(plane, 200, 9, 5);
            }
            for (int call = 7; call < 512; call++) {
                x.rain(99, 60);
            }
            int minutes = 505 * 60;
            int rained = minutes * 6 * 1980;
            int drained = minutes * 20;
            int[] due = {minutes, 0, rained, 60, drained, rained - drained - 60, 0};
            int w = what;
            s.due("call 512, count(" + w + ")", () -> x.count(w), due[w]);
        }
    }

    private void terms() {
        s.section("Terms");
        s.leavesOpen("Water is litres.");
        s.leavesOpen("Planes, gutters");
        s.says("All numbers are integers, but for a share; divisions are rounded down.", this::roundedDown);
        s.says("There are 6 planes and 6 gutters, numbered from 0.", this::sixOfEach);
        s.says("A plane has an area, 0 to 200 square metres, at first 40;", this::areas);
        s.says("a slope, 0 to 9, at first 3;", this::slopes);
        s.says("and a gutter, at first that with its number.", this::ownGutters);
        s.says("In a minute with a rain of r (tenths of a litre on a square metre), area * r / 10 litres come to the "
            + "plane;", this::litresThatCome);
        s.says("then, of the water that is on it, its litres times (5 + slope), divided by 14, flow into its gutter,",
            this::litresThatFlow);
        s.says("but 1 litre, if that is 0 and there is water;", this::theLastLitreFlows);
        s.says("the rest stays for the next minute.", this::theRestStays);
        s.says("A gutter has a size, 1 to 500 litres, at first 60: so much can stand in it when it is clean;",
            this::sizes);
        s.says("a bore, 0 to 99 litres that its downpipe takes in a minute, at first 20;", this::bores);
        s.says("leaves, 0 to 100 hundredths, at first 0;", this::leavesOfGutters);
        s.says("and another gutter as its valley, or none, at first none.", this::valleys);
        s.says("Its room is size * (100 - leaves) / 100;", this::rooms);
        s.says("its downpipe takes bore * (100 - leaves) / 100 in a minute,", this::takes);
        s.says("but at least 1, if its bore is not 0.", this::takesAtLeastOne);
        s.says("All downpipes lead to a drain in the ground, which takes setting 0 litres in a minute, of all "
            + "together:", this::theDrain);
        s.says("if they would bring more, it backs up, and the last gutters by their numbers send less.",
            this::theLastSendLess);
    }

    private void roundedDown() {
        RoofDrains x = Checks.onePlane(19, 0);
        x.plane(0, 19, 0, 0);
        Checks.gatherLeaves(x, 1);
        x.gutter(0, 3, 3);
        s.due("room of 2.97", () -> x.gutterOf(0, 5), 2);
        s.due("a downpipe of 2.97", () -> x.gutterOf(0, 6), 2);
        x.rain(7, 1);
        s.due("13.3 litres of rain", () -> x.count(2), 13);
        s.due("4.64 litres flow", () -> x.planeOf(0, 3), 9);
        s.due("the downpipe took", () -> x.gutterOf(0, 8), 2);
        s.due("a share is not rounded", x::drainedShare, 2.0 / 13.0);
    }

    private void sixOfEach() {
        RoofDrains x = new RoofDrains();
        for (int n = 0; n < 6; n++) {
            int number = n;
            s.due("planeOf(" + n + ", 2)", () -> x.planeOf(number, 2), n);
            s.due("gutterOf(" + n + ", 0)", () -> x.gutterOf(number, 0), 60);
        }
        s.refusedOutside("plane", 0, 5, x, INDEX, n -> x.planeOf(n, 0));
        s.refusedOutside("gutter", 0, 5, x, INDEX, n -> x.gutterOf(n, 0));
    }

    private void areas() {
        RoofDrains x = new RoofDrains();
        for (int n = 0; n < 6; n++) {
            int number = n;
            s.due("at first", () -> x.planeOf(number, 0), 40);
        }
        for (int area : new int[] {0, 1, 199, 200}) {
            x.plane(4, area, 3, 4);
            s.due("area " + area, () -> x.planeOf(4, 0), area);
        }
        s.refusedOutside("area", 0, 200, x, ARGUMENT, area -> x.plane(4, area, 3, 4));
    }

    private void slopes() {
        RoofDrains x = new RoofDrains();
        for (int n = 0; n < 6; n++) {
            int number = n;
            s.due("at first", () -> x.planeOf(number, 1), 3);
        }
        for (int slope : new int[] {0, 1, 8, 9}) {
            x.plane(4, 40, slope, 4);
            s.due("slope " + slope, () -> x.planeOf(4, 1), slope);
        }
        s.refusedOutside("slope", 0, 9, x, ARGUMENT, slope -> x.plane(4, 40, slope, 4));
    }

    private void ownGutters() {
        for (int n = 0; n < 6; n++) {
            RoofDrains x = new RoofDrains();
            int number = n;
            s.due("planeOf(" + n + ", 2)", () -> x.planeOf(number, 2), n);
            x.rain(20, 1);
            s.due("litres into gutter " + n, () -> x.gutterOf(number, 4) + x.gutterOf(number, 8), 45);
        }
    }

    private void litresThatCome() {
        int[][] areaRainLitres = {{0, 99, 0}, {200, 0, 0}, {9, 1, 0}, {1, 9, 0}, {10, 1, 1}, {1, 10, 1}, {19, 1, 1},
            {20, 1, 2}, {200, 99, 1980}, {199, 99, 1970}, {1, 99, 9}};
        for (int[] row : areaRainLitres) {
            RoofDrains x = Checks.onePlane(row[0], 0);
            x.rain(row[1], 1);
            s.due("rain " + row[1] + " on " + row[0], () -> x.count(2), row[2]);
        }
    }

    /** Rain 10 brings as many litres as the plane has square metres; what does not flow is on it behind the minute. */
    private void flows(int litres, int slope, int flow) {
        RoofDrains x = Checks.onePlane(litres, 3);
        x.plane(0, litres, slope, 3);
        x.gutter(3, 500, 0);
        x.rain(10, 1);
        s.due("of " + litres + " by slope " + slope + " flow", () -> x.gutterOf(3, 4), flow);
        s.due("of " + litres + " by slope " + slope + " stay", () -> x.planeOf(0, 3), litres - flow);
    }

    private void litresThatFlow() {
        int[][] litresSlopeFlow = {{200, 9, 200}, {14, 9, 14}, {1, 9, 1}, {200, 8, 185}, {14, 8, 13}, {14, 0, 5},
            {13, 0, 4}, {6, 0, 2}, {5, 0, 1}, {3, 0, 1}, {2, 2, 1}, {28, 1, 12}, {40, 3, 22}};
        for (int[] row : litresSlopeFlow) {
            flows(row[0], row[1], row[2]);
        }
    }

    private void theLastLitreFlows() {
        flows(2, 0, 1);
        for (int slope = 0; slope <= 9; slope++) {
            flows(1, slope, 1);
            flows(0, slope, 0);
        }
    }

    private void theRestStays() {
        RoofDrains x = Checks.onePlane(10, 0);
        x.plane(0, 10, 0, 0);
        x.rain(14, 1);
        s.due("of 14", () -> x.planeOf(0, 3), 9);
        x.rain(5, 1);
        s.due("of 9 and 5 more", () -> x.planeOf(0, 3), 9);
        int[] due = {6, 4, 3, 2, 1, 0, 0};
        for (int litres : due) {
            x.rain(0, 1);
            s.due("without rain", () -> x.planeOf(0, 3), litres);
        }
    }

    private void sizes() {
        int[][] sizeLitresSpilt = {{1, 1, 0}, {1, 2, 1}, {60, 60, 0}, {60, 61, 1}, {200, 200, 0}, {199, 200, 1}};
        s.due("at first", () -> new RoofDrains().gutterOf(5, 0), 60);
        for (int[] row : sizeLitresSpilt) {
            RoofDrains x = Checks.onePlane(row[1], 5);
            x.gutter(5, row[0], 0);
            s.due(row[1] + " litres into " + row[0], () -> x.rain(10, 1), row[2]);
            s.due("stand of " + row[1], () -> x.gutterOf(5, 4), row[1] - row[2]);
        }
        RoofDrains greatest = Checks.onePlane(100, 5);
        greatest.gutter(5, 500, 0);
        s.due("500 litres into 500", () -> greatest.rain(50, 1), 0);
        greatest.plane(0, 1, 9, 5);
        s.due("one more", () -> greatest.rain(10, 1), 1);
        s.refusedOutside("size", 1, 500, greatest, ARGUMENT, size -> greatest.gutter(5, size, 0));
    }

    private void bores() {
        s.due("at first", () -> new RoofDrains().gutterOf(0, 1), 20);
        int[][] boreLitresDrained = {{0, 100, 0}, {1, 100, 1}, {20, 19, 19}, {20, 20, 20}, {20, 21, 20}, {99, 98, 98},
            {99, 99, 99}, {99, 100, 99}};
        for (int[] row : boreLitresDrained) {
            RoofDrains x = Checks.onePlane(row[1], 0);
            x.gutter(0, 60, row[0]);
            x.rain(10, 1);
            s.due("bore " + row[0] + ", of " + row[1], () -> x.gutterOf(0, 8), row[2]);
            s.refusedOutside("bore", 0, 99, x, ARGUMENT, bore -> x.gutter(0, 60, bore));
        }
    }

    private void leavesOfGutters() {
        RoofDrains x = new RoofDrains();
        x.set(1, 50);
        int[] due = {0, 50, 100, 100};
        for (int hundredths : due) {
            for (int gutter = 0; gutter < 6; gutter++) {
                int g = gutter;
                s.due("leaves", () -> x.gutterOf(g, 2), hundredths);
            }
            x.weeks(1);
        }
    }

    private void valleys() {
        for (int gutter = 0; gutter < 6; gutter++) {
            int from = gutter;
            RoofDrains x = new RoofDrains();
            s.due("at first", () -> x.gutterOf(from, 3), NONE);
            for (int to = 0; to < 6; to++) {
                int other = to;
                if (other == from) {
                    s.refused("no other gutter", x, ARGUMENT, () -> x.valley(from, other));
                } else {
                    x.valley(from, other);
                    s.due("valley", () -> x.gutterOf(from, 3), other);
                }
            }
            x.valley(from, NONE);
            s.due("none again", () -> x.gutterOf(from, 3), NONE);
        }
    }

    /** What a gutter of this size and bore has of a number, by hundredths of leaves. */
    private void byLeaves(int size, int bore, int what, int[] leaves, int... due) {
        for (int n = 0; n < leaves.length; n++) {
            RoofDrains x = new RoofDrains();
            Checks.gatherLeaves(x, leaves[n]);
            x.gutter(2, size, bore);
            s.due("size " + size + ", bore " + bore + ", leaves " + leaves[n], () -> x.gutterOf(2, what), due[n]);
        }
    }

    private void rooms() {
        int[] leaves = {0, 1, 50, 99, 100};
        byLeaves(500, 0, 5, leaves, 500, 495, 250, 5, 0);
        byLeaves(60, 0, 5, leaves, 60, 59, 30, 0, 0);
        byLeaves(2, 0, 5, leaves, 2, 1, 1, 0, 0);
        byLeaves(1, 0, 5, leaves, 1, 0, 0, 0, 0);
        RoofDrains x = Checks.onePlane(1, 0);
        Checks.gatherLeaves(x, 1);
        x.gutter(0, 1, 0);
        s.due("a litre, where there is no room", () -> x.rain(10, 1), 1);
    }

    private void takes() {
        int[] leaves = {0, 1, 50, 51, 98, 99};
        byLeaves(60, 99, 6, leaves, 99, 98, 49, 48, 1, 1);
        byLeaves(60, 20, 6, leaves, 20, 19, 10, 9, 1, 1);
        byLeaves(60, 4, 6, leaves, 4, 3, 2, 1, 1, 1);
        byLeaves(60, 0, 6, leaves, 0, 0, 0, 0, 0, 0);
        RoofDrains x = Checks.onePlane(50, 0);
        Checks.gatherLeaves(x, 51);
        x.gutter(0, 500, 99);
        x.rain(10, 1);
        s.due("of 50 litres", () -> x.gutterOf(0, 8), 48);
    }

    private void takesAtLeastOne() {
        int[] leaves = {0, 1, 99, 100};
        byLeaves(60, 1, 6, leaves, 1, 1, 1, 1);
        byLeaves(60, 2, 6, leaves, 2, 1, 1, 1);
        byLeaves(60, 99, 6, leaves, 99, 98, 1, 1);
        byLeaves(60, 0, 6, leaves, 0, 0, 0, 0);
        RoofDrains x = Checks.onePlane(2, 0);
        Checks.gatherLeaves(x, 100);
        s.due("full of leaves, of 2 litres are spilt", () -> x.rain(10, 1), 1);
        s.due("full of leaves, drained", () -> x.gutterOf(0, 8), 1);
        x.gutter(0, 60, 0);
        s.due("no bore, of 2 litres are spilt", () -> x.rain(10, 1), 2);
    }

    /** A roof on which each gutter has 200 litres and would send 99. */
    private static RoofDrains sixWideDownpipes(int drain) {
        RoofDrains x = new RoofDrains();
        for (int n = 0; n < 6; n++) {
            x.plane(n, 200, 9, n);
            x.gutter(n, 500, 99);
        }
        x.set(0, drain);
        return x;
    }

    private void theDrain() {
        int[][] drainDrained = {{0, 0}, {1, 1}, {100, 100}, {593, 593}, {594, 594}, {595, 594}, {600, 594}};
        for (int[] row : drainDrained) {
            RoofDrains x = sixWideDownpipes(row[0]);
            x.rain(10, 1);
            s.due("drain " + row[0] + ", a minute", () -> x.count(4), row[1]);
            x.rain(10, 1);
            s.due("drain " + row[0] + ", two minutes", () -> x.count(4), 2 * row[1]);
        }
    }

    private void theLastSendLess() {
        int[][] drainAndSent = {{594, 99, 99, 99, 99, 99, 99}, {593, 99, 99, 99, 99, 99, 98}, {495, 99, 99, 99, 99, 99, 0},
            {494, 99, 99, 99, 99, 98, 0}, {100, 99, 1, 0, 0, 0, 0}, {99, 99, 0, 0, 0, 0, 0}, {98, 98, 0, 0, 0, 0, 0},
            {0, 0, 0, 0, 0, 0, 0}};
        for (int[] row : drainAndSent) {
            RoofDrains x = sixWideDownpipes(row[0]);
            x.rain(10, 1);
            for (int gutter = 0; gutter < 6; gutter++) {
                int g = gutter;
                s.due("drain " + row[0] + ", gutter " + g, () -> x.gutterOf(g, 8), row[1 + g]);
                s.due("drain " + row[0] + ", stands in " + g, () -> x.gutterOf(g, 4), 200 - row[1 + g]);
            }
        }
    }

    private void aMinute() {
        s.section("A minute");
        s.leavesOpen("In a minute:");
        s.says("1. The planes, from 0 on, get the rain, and send water into their gutters.", this::planesSend);
        s.says("2. The gutters, from 0 on: water flows down the pipe: as much as it takes, as there is, and as is left "
            + "of the drain in this minute. It is drained.", this::waterFlowsDown);
        s.says("3. The gutters, from 0 on: what a gutter has above its room leaves it:", this::aboveItsRoom);
        s.says("into its valley, if it has one, and otherwise over the rim: it is spilt.", this::valleyOrRim);
        s.says("(What comes by a valley into a gutter with a greater number is there when it is its turn in the same "
            + "step;", this::toAGreaterNumber);
        s.says("in one with a lesser number it stands till the next minute, also above its room.)",
            this::toALesserNumber);
        s.says("Then the minute has gone.", this::minutesGo);
        s.says("When a week passes, each gutter has setting 1 hundredths of leaves more, but at most 100;",
            this::leavesOfAWeek);
        s.says("nothing else happens.", this::nothingElse);
    }

    private void planesSend() {
        RoofDrains x = Checks.onePlane(200, 5);
        s.due("all in the first minute", () -> x.rain(99, 1), 1980 - 20 - 60);
        RoofDrains all = new RoofDrains();
        for (int plane = 0; plane < 6; plane++) {
            all.plane(plane, plane + 1, 9, 2);
        }
        all.gutter(2, 60, 0);
        all.rain(10, 1);
        s.due("six planes into one gutter", () -> all.gutterOf(2, 4), 21);
    }

    private void waterFlowsDown() {
        int[][] boreLitresDrainSent = {{20, 30, 600, 20}, {20, 20, 20, 20}, {30, 20, 600, 20}, {30, 20, 20, 20},
            {30, 30, 20, 20}, {30, 40, 0, 0}, {30, 0, 600, 0}, {0, 30, 600, 0}};
        for (int[] row : boreLitresDrainSent) {
            RoofDrains x = Checks.onePlane(row[1], 1);
            x.gutter(1, 60, row[0]);
            x.set(0, row[2]);
            x.rain(10, 1);
            s.due("sent", () -> x.gutterOf(1, 8), row[3]);
            s.due("stands", () -> x.gutterOf(1, 4), row[1] - row[3]);
            s.due("drained in all", () -> x.count(4), row[3]);
        }
        RoofDrains dry = Checks.onePlane(10, 1);
        dry.set(0, 10);
        dry.rain(10, 1);
        s.due("a dry gutter leaves the drain to the next", () -> dry.gutterOf(1, 8), 10);
    }

    private void aboveItsRoom() {
        int[][] litresSpilt = {{79, 0}, {80, 0}, {81, 1}, {200, 120}};
        for (int[] row : litresSpilt) {
            RoofDrains x = Checks.onePlane(row[0], 3);
            s.due(row[0] + " litres, of which 20 go down first", () -> x.rain(10, 1), row[1]);
            s.due("stands", () -> x.gutterOf(3, 4), row[0] - 20 - row[1]);
        }
    }

    private void valleyOrRim() {
        int[][] litresToValley = {{79, 0}, {80, 0}, {81, 1}, {140, 60}};
        for (int[] row : litresToValley) {
            RoofDrains x = Checks.onePlane(row[0], 3);
            x.valley(3, 4);
            s.due(row[0] + " litres, with a valley", () -> x.rain(10, 1), 0);
            s.due("stands in the other", () -> x.gutterOf(4, 4), row[1]);
            s.due("spilt by the first", () -> x.gutterOf(3, 7), 0);
            s.due("stands in the first", () -> x.gutterOf(3, 4), row[0] - 20 - row[1]);
        }
        RoofDrains y = Checks.onePlane(141, 3);
        y.valley(3, 4);
        s.due("one more than both can hold", () -> y.rain(10, 1), 1);
        s.due("spilt by the other", () -> y.gutterOf(4, 7), 1);
        s.due("spilt by the first", () -> y.gutterOf(3, 7), 0);
    }

    private void toAGreaterNumber() {
        RoofDrains x = Checks.onePlane(200, 0);
        for (int gutter = 0; gutter < 5; gutter++) {
            x.valley(gutter, gutter + 1);
        }
        s.due("through all gutters in a minute", () -> x.rain(20, 1), 400 - 20 - 6 * 60);
        for (int gutter = 0; gutter < 6; gutter++) {
            int g = gutter;
            s.due("stands in " + g, () -> x.gutterOf(g, 4), 60);
            s.due("drained by " + g, () -> x.gutterOf(g, 8), g == 0 ? 20 : 0);
        }
    }

    private void toALesserNumber() {
        RoofDrains x = Checks.onePlane(200, 2);
        x.valley(2, 1);
        x.valley(1, 0);
        s.due("in a minute", () -> x.rain(20, 1), 0);
        stands("behind a minute", x, 0, 320, 60);
        s.due("in the next minute", () -> x.rain(0, 1), 0);
        stands("behind two minutes", x, 240, 60, 40);
        s.due("in the last minute", () -> x.rain(0, 1), 240 - 20 - 60);
        stands("behind three minutes", x, 60, 40, 20);
    }

    private void stands(String what, RoofDrains x, int... due) {
        for (int gutter = 0; gutter < due.length; gutter++) {
            int g = gutter;
            s.due(what + ", in gutter " + g, () -> x.gutterOf(g, 4), due[g]);
        }
    }

    private void minutesGo() {
        RoofDrains x = new RoofDrains();
        int[] minutes = {1, 60, 2};
        int gone = 0;
        for (int more : minutes) {
            x.rain(0, more);
            gone += more;
            int due = gone;
            s.due("count(0)", () -> x.count(0), due);
        }
        x.weeks(52);
        s.due("count(0) behind weeks", () -> x.count(0), 63);
    }

    private void leavesOfAWeek() {
        int[][] beforeMoreBehind = {{0, 0, 0}, {0, 1, 1}, {0, 50, 50}, {99, 0, 99}, {99, 1, 100}, {99, 2, 100}, {50, 50, 100},
            {51, 50, 100}, {100, 0, 100}, {100, 50, 100}};
        for (int[] row : beforeMoreBehind) {
            RoofDrains x = new RoofDrains();
            Checks.gatherLeaves(x, row[0]);
            x.set(1, row[1]);
            x.weeks(1);
            for (int gutter = 0; gutter < 6; gutter++) {
                int g = gutter;
                s.due(row[0] + " and " + row[1] + " more", () -> x.gutterOf(g, 2), row[2]);
            }
        }
    }

    private void nothingElse() {
        RoofDrains x = Checks.onePlane(100, 0);
        x.plane(1, 100, 0, 1);
        x.rain(10, 1);
        int[][] before = numbersOf(x);
        x.set(1, 50);
        x.weeks(2);
        int[][] behind = numbersOf(x);
        for (int row = 0; row < before.length; row++) {
            for (int n = 0; n < before[row].length; n++) {
                int due = before[row][n];
                int got = behind[row][n];
                s.due("number " + n + " of row " + row, () -> got, due);
            }
        }
        s.due("there is no room", () -> x.gutterOf(0, 5), 0);
        s.due("but the water stands", () -> x.gutterOf(0, 4), 60);
    }

    /** All but the leaves, what they narrow, the weeks and the saved states. */
    private static int[][] numbersOf(RoofDrains x) {
        int[][] rows = new int[13][];
        for (int n = 0; n < 6; n++) {
            rows[n] = new int[] {x.planeOf(n, 0), x.planeOf(n, 1), x.planeOf(n, 2), x.planeOf(n, 3)};
            rows[6 + n] = new int[] {x.gutterOf(n, 0), x.gutterOf(n, 1), x.gutterOf(n, 3), x.gutterOf(n, 4),
                x.gutterOf(n, 7), x.gutterOf(n, 8)};
        }
        rows[12] = new int[] {x.count(0), x.count(2), x.count(3), x.count(4), x.count(5), x.count(6), x.setting(0),
            x.setting(2)};
        return rows;
    }

    private void settings() {
        s.section("Settings");
        s.says("0: the drain, 0 to 600, at first 100;", () -> settingIs(0, 600, 100));
        s.says("1: leaves of a week, 0 to 50, at first 4;", () -> settingIs(1, 50, 4));
        s.says("2: the rain that is thought of in what would be, 0 to 99, at first 20.", () -> settingIs(2, 99, 20));
    }

    private void settingIs(int setting, int most, int first) {
        RoofDrains x = new RoofDrains();
        s.due("at first", () -> x.setting(setting), first);
        for (int value : new int[] {0, 1, most - 1, most}) {
            x.set(setting, value);
            s.due("set to " + value, () -> x.setting(setting), value);
        }
        s.refusedOutside("value", 0, most, x, ARGUMENT, value -> x.set(setting, value));
        for (int other = 0; other < 3; other++) {
            if (other != setting) {
                int o = other;
                s.due("another setting", () -> x.setting(o), new RoofDrains().setting(o));
            }
        }
    }

    private void inputText() {
        s.section("Input text");
        s.says("The buffer has at most 60 characters.", this::sixtyCharacters);
        s.says("Rain as a text is one or more parts with \";\" between them,", this::oneOrMoreParts);
        s.says("each a rain in tenths, 0 to 99, without a leading zero,",
            () -> numbers("", "*1", 0, 99));
        s.says("\"*\" and minutes, 1 to 60, without a leading zero;", () -> numbers("0*", "", 1, 60));
        s.says("or \"w\" (a week);", this::theWeekSign);
        s.says("or \"c\" and a gutter, 0 to 5 (it is cleaned).", () -> numbers("c", "", 0, 5));
        s.says("The buffer is read from left to right;", this::leftToRight);
        s.says("a character is a syntax error if no rain as a text, of any length, begins with the characters before it "
            + "and this character.", this::everyShortBuffer);
    }

    private void sixtyCharacters() {
        RoofDrains x = new RoofDrains();
        for (int length = 1; length <= 60; length++) {
            s.due("append", () -> x.append('w'), length);
        }
        s.refused("append to 60", x, STATE, () -> x.append('w'));
        s.due("the length is still", x::clearBuffer, 60);
    }

    private void whole(String text) {
        RoofDrains x = Checks.typed(text);
        s.due("firstError() of " + text, x::firstError, text.length());
        s.due("play() of " + text, () -> x.play() >= 0, true);
    }

    private void unfinished(String text) {
        RoofDrains x = Checks.typed(text);
        s.due("firstError() of " + text, x::firstError, text.length());
        s.refused("play() of " + text, x, ARGUMENT, x::play);
    }

    private void wrong(String text, int at) {
        RoofDrains x = Checks.typed(text);
        s.due("firstError() of " + text, x::firstError, at);
        s.refused("play() of " + text, x, ARGUMENT, x::play);
    }

    private void oneOrMoreParts() {
        unfinished("");
        whole("w");
        whole("w;w");
        whole("w;c0;0*1");
        unfinished("w;");
        wrong(";", 0);
        wrong("w;;w", 2);
        wrong("ww", 1);
        wrong("0*1w", 3);
        wrong("c0w", 2);
    }

    /** Numbers from least to most are whole; the others are wrong at the first digit with which none of them begins. */
    private void numbers(String before, String behind, int least, int most) {
        for (int number = 0; number <= 130; number++) {
            String digits = String.valueOf(number);
            if (number >= least && number <= most) {
                whole(before + digits + behind);
            } else {
                int fine = 0;
                while (fine < digits.length() && begins(digits.substring(0, fine + 1), least, most)) {
                    fine++;
                }
                wrong(before + digits + behind, before.length() + fine);
            }
            int zeros = least == 0 ? 1 : 0;
            wrong(before + "0" + digits + behind, before.length() + zeros);
        }
        wrong(before + "-1" + behind, before.length());
        wrong(before + "!", before.length());
    }

    private static boolean begins(String digits, int least, int most) {
        for (int number = least; number <= most; number++) {
            if (String.valueOf(number).startsWith(digits)) {
                return true;
            }
        }
        return false;
    }

    private void theWeekSign() {
        whole("w");
        wrong("W", 0);
        wrong("v", 0);
        wrong("x", 0);
        wrong("w0", 1);
        RoofDrains x = Checks.typed("w");
        x.play();
        s.due("count(1)", () -> x.count(1), 1);
        s.due("count(0)", () -> x.count(0), 0);
    }

    private void leftToRight() {
        wrong("!;w", 0);
        wrong("c6;c7", 1);
        wrong("0*61;x", 3);
        wrong("w;w;5*0;ww", 6);
    }

    /** Each buffer of up to five of these characters, and each character behind each kind of beginning. */
    private void everyShortBuffer() {
        char[] signs = {'0', '1', '5', '6', '7', '*', ';', 'w', 'c', 'x'};
        int buffers = 1;
        for (int length = 0; length <= 5; length++) {
            for (int number = 0; number < buffers; number++) {
                char[] buffer = new char[length];
                int rest = number;
                for (int n = 0; n < length; n++) {
                    buffer[n] = signs[rest % 10];
                    rest /= 10;
                }
                errorAsInTheModel(new String(buffer));
            }
            buffers *= 10;
        }
        for (String beginning : new String[] {"", "0", "1", "9", "10", "99", "0*", "9*", "10*", "5*1", "5*5", "5*6", "5*7",
            "5*9", "5*10", "5*60", "c", "c0", "c5", "w", "w;", "w;1", "w;10*", "w;10*1", "w;c"}) {
            for (char sign = 33; sign <= 126; sign++) {
                errorAsInTheModel(beginning + sign);
            }
        }
        unfinished("w;".repeat(30));
        unfinished("w;".repeat(28) + "w;5*");
        whole("w;".repeat(28) + "c5;w");
    }

    /** Against the sentence as Model has it. */
    private void errorAsInTheModel(String text) {
        Model model = new Model();
        for (char sign : text.toCharArray()) {
            model.append(sign);
        }
        s.due("firstError() of " + text, Checks.typed(text)::firstError, model.firstError());
    }

    private void undo() {
        s.section("Undo");
        s.says("Each method that is marked \"undoable\" and does not throw an exception saves the state from before it "
            + "(also if it changes nothing):", this::undoableCallsSave);
        s.says("all, also what is counted so far, but the buffer and the saved states.", this::whatIsRestored);
        s.says("At most 6 states are saved; the oldest one is dropped first.", this::sixStates);
    }

    /** A call of each undoable method: one that throws, or one that leaves the planes, gutters and settings as they are. */
    private static Callable<Object> change(RoofDrains x, int kind, boolean bad) {
        switch (kind) {
            case 0:
                return () -> x.plane(bad ? 6 : 5, 40, 3, 5);
            case 1:
                return () -> x.gutter(bad ? 6 : 5, 60, 20);
            case 2:
                return () -> x.valley(bad ? 6 : 5, NONE);
            case 3:
                return () -> x.clean(bad ? 6 : 5);
            case 4:
                return () -> x.set(bad ? 3 : 2, 20);
            case 5:
                return () -> x.rain(bad ? 100 : 0, 1);
            case 6:
                return () -> x.weeks(bad ? 0 : 1);
            default:
                return x::play;
        }
    }

    private void undoableCallsSave() {
        for (int kind = 0; kind < 8; kind++) {
            RoofDrains x = new RoofDrains();
            x.set(1, 0);
            s.refused("call " + kind, x, kind < 5 ? INDEX : ARGUMENT, change(x, kind, true));
            s.due("states behind refused call " + kind, () -> x.count(8), 1);
            Checks.type(x, "0*1");
            Checks.answer(change(x, kind, false));
            s.due("states behind call " + kind, () -> x.count(8), 2);
            s.due("undo()", x::undo, 1);
        }
        RoofDrains looks = Checks.typed("w");
        looks.firstError();
        looks.ifRained(1, 0);
        looks.bestClean();
        looks.digest();
        looks.clearBuffer();
        s.due("states behind other calls", () -> looks.count(8), 0);
    }

    private void whatIsRestored() {
        RoofDrains x = new RoofDrains();
        x.rain(30, 9);
        x.weeks(3);
        x.clearBuffer();
        long before = x.digest();
        Checks.type(x, "99*60;w;c1");
        x.play();
        s.due("undo()", x::undo, 2);
        s.due("the digest", x::digest, before);
        s.due("the buffer is still cleared", x::clearBuffer, 0);
        x.rain(99, 60);
        Checks.type(x, "w;");
        s.due("undo()", x::undo, 2);
        s.due("the buffer is still there", x::clearBuffer, 2);
        s.due("the digest", x::digest, before);
    }

    private void sixStates() {
        for (int changes : new int[] {5, 6, 7, 11, 12, 13, 18, 19, 40}) {
            RoofDrains x = new RoofDrains();
            for (int value = 1; value <= changes; value++) {
                x.set(0, value);
            }
            int saved = Math.min(6, changes);
            s.due("saved of " + changes, () -> x.count(8), saved);
            for (int left = saved - 1; left >= 0; left--) {
                s.due("undo()", x::undo, left);
                int due = changes - saved + left == 0 ? 100 : changes - saved + left;
                s.due("setting(0)", () -> x.setting(0), due);
            }
            s.due("undo() of no more", x::undo, "throws.IllegalStateException");
        }
    }

    private void exceptions() {
        s.section("Exceptions");
        s.says("A call that throws an exception changes nothing.", this::refusedCallsChangeNothing);
        s.says("If several exceptions apply, the one that is named first in the throws clause is thrown.",
            this::theFirstException);
        s.says("The constants: `NONE = -1`: There is nothing to return.", this::theConstant);
        s.leavesOpen("Ahead of the calls `plane`, `gutter`, `valley`, `clean`, `set`, `rain`, `weeks` the interface says: "
            + "---- the roof.");
        s.leavesOpen("Ahead of the calls `append`, `clearBuffer`, `firstError`, `play`, `undo` the interface says: ---- "
            + "texts.");
        s.leavesOpen("Ahead of the calls `planeOf`, `gutterOf`, `count`, `setting` the interface says: ---- looks; "
            + "nothing is changed.");
        s.leavesOpen("Ahead of the calls `ifRained`, `spillsFirst`, `bestClean`, `mostRain`, `dryIn`, `drainedShare`, "
            + "`digest` the interface says: ---- what would be; nothing is changed.");
    }

    private static RoofDrains wetRoof() {
        RoofDrains x = new RoofDrains();
        x.valley(0, 1);
        x.weeks(5);
        x.rain(40, 3);
        x.clean(2);
        x.rain(0, 1);
        x.plane(1, 7, 7, 0);
        x.gutter(3, 9, 9);
        Checks.type(x, "w;c6");
        return x;
    }

    /** Also what undo brings back is not changed, down to the last saved state. */
    private void refusedCallsChangeNothing() {
        RoofDrains x = wetRoof();
        RoofDrains y = wetRoof();
        for (int kind = 0; kind < 8; kind++) {
            s.refused("call " + kind, x, kind < 5 ? INDEX : ARGUMENT, change(x, kind, true));
        }
        s.refused("plane", x, ARGUMENT, () -> x.plane(0, 201, 0, 0));
        s.refused("gutter", x, ARGUMENT, () -> x.gutter(0, 0, 0));
        s.refused("valley to itself", x, ARGUMENT, () -> x.valley(0, 0));
        s.refused("valley back", x, STATE, () -> x.valley(1, 0));
        s.refused("set", x, ARGUMENT, () -> x.set(1, 51));
        s.refused("append", x, ARGUMENT, () -> x.append(32));
        for (int left = 5; left >= 0; left--) {
            s.due("undo()", x::undo, left);
            y.undo();
            s.due("digest behind undo()", x::digest, y.digest());
        }
        s.refused("undo", x, STATE, x::undo);
        s.due("length of the buffer", x::clearBuffer, 4);
    }

    /** Each pair of wrong arguments of one call. */
    private void theFirstException() {
        RoofDrains x = new RoofDrains();
        Object index = "throws.IndexOutOfBoundsException";
        Object argument = "throws.IllegalArgumentException";
        s.due("plane 6, area 201", () -> x.plane(6, 201, 0, 0), index);
        s.due("plane -1, slope 10", () -> x.plane(-1, 0, 10, 0), index);
        s.due("area 201, gutter 6", () -> x.plane(0, 201, 0, 6), index);
        s.due("slope -1, gutter -1", () -> x.plane(0, 0, -1, -1), index);
        s.due("gutter 6, size 0", () -> x.gutter(6, 0, 0), index);
        s.due("gutter -1, bore 100", () -> x.gutter(-1, 1, 100), index);
        s.due("valley(6, 6)", () -> x.valley(6, 6), index);
        s.due("valley(-1, NONE)", () -> x.valley(-1, NONE), index);
        s.due("set(3, -1)", () -> x.set(3, -1), index);
        s.due("set(-1, 1000)", () -> x.set(-1, 1000), index);
        s.due("planeOf(6, 4)", () -> x.planeOf(6, 4), index);
        s.due("planeOf(-1, -1)", () -> x.planeOf(-1, -1), index);
        s.due("gutterOf(6, 9)", () -> x.gutterOf(6, 9), index);
        s.due("gutterOf(-1, -1)", () -> x.gutterOf(-1, -1), index);
        Checks.type(x, "w".repeat(60));
        s.due("append(32) to 60", () -> x.append(32), argument);
        s.due("append(127) to 60", () -> x.append(127), argument);
    }

    private void theConstant() {
        RoofDrains x = new RoofDrains();
        s.due("NONE", () -> NONE, -1);
        s.due("a gutter without a valley", () -> x.gutterOf(0, 3), -1);
        s.due("the valley before the first", () -> x.valley(0, 1), -1);
        s.due("no gutter has leaves", x::bestClean, -1);
        x.set(2, 0);
        s.due("no gutter spills", () -> x.spillsFirst(0), -1);
        s.due("in no minute", () -> x.spillsFirst(1), -1);
    }
}
