import java.util.ArrayDeque;
import java.util.ArrayList;
import java.util.Deque;
import java.util.List;
import java.util.regex.Matcher;
import java.util.regex.Pattern;

/** The document again, written in another way and with the whole Java library, to compare answers with. */
public final class Model {
    private static final Pattern TEXT = Pattern.compile(part() + "(;" + part() + ")*");

    private State state = new State();
    private final Deque<State> saved = new ArrayDeque<>();
    private final StringBuilder buffer = new StringBuilder();

    private static String part() {
        return "((0|[1-9][0-9]?)\\*([1-9]|[1-5][0-9]|60)|w|c[0-5])";
    }

    private static final class Plane {
        int area = 40;
        int slope = 3;
        int gutter;
        int water;

        Plane(int gutter) {
            this.gutter = gutter;
        }

        Plane(Plane p) {
            area = p.area;
            slope = p.slope;
            gutter = p.gutter;
            water = p.water;
        }
    }

    private static final class Gutter {
        int size = 60;
        int bore = 20;
        int leaves;
        int valley = -1;
        int water;
        int spilt;
        int drained;

        Gutter() {
        }

        Gutter(Gutter g) {
            size = g.size;
            bore = g.bore;
            leaves = g.leaves;
            valley = g.valley;
            water = g.water;
            spilt = g.spilt;
            drained = g.drained;
        }

        int room() {
            return (int) Math.floor(size * (100 - leaves) / 100.0);
        }

        int takes() {
            return bore == 0 ? 0 : Math.max(1, (int) Math.floor(bore * (100 - leaves) / 100.0));
        }
    }

    private static final class State {
        final List<Plane> planes = new ArrayList<>();
        final List<Gutter> gutters = new ArrayList<>();
        int[] settings = {100, 4, 20};
        int minutes;
        int weeks;
        int rained;
        int drained;
        int spilt;
        int backedUp;

        State() {
            for (int n = 0; n < 6; n++) {
                planes.add(new Plane(n));
                gutters.add(new Gutter());
            }
        }

        State copy() {
            State s = new State();
            for (int n = 0; n < 6; n++) {
                s.planes.set(n, new Plane(planes.get(n)));
                s.gutters.set(n, new Gutter(gutters.get(n)));
            }
            s.settings = settings.clone();
            s.minutes = minutes;
            s.weeks = weeks;
            s.rained = rained;
            s.drained = drained;
            s.spilt = spilt;
            s.backedUp = backedUp;
            return s;
        }

        List<Integer> minute(int rain) {
            for (Plane p : planes) {
                int litres = (int) Math.floor(p.area * rain / 10.0);
                rained += litres;
                p.water += litres;
                int flow = Math.floorDiv(p.water * (5 + p.slope), 14);
                flow = Math.max(flow, Math.min(1, p.water));
                p.water -= flow;
                gutters.get(p.gutter).water += flow;
            }
            int drainHas = settings[0];
            int wouldTake = 0;
            for (Gutter g : gutters) {
                int can = Math.min(g.takes(), g.water);
                wouldTake += can;
                int goes = Math.min(can, drainHas);
                drainHas -= goes;
                g.water -= goes;
                g.drained += goes;
                drained += goes;
            }
            if (wouldTake > settings[0]) {
                backedUp++;
            }
            List<Integer> spilling = new ArrayList<>();
            for (int n = 0; n < 6; n++) {
                Gutter g = gutters.get(n);
                int over = Math.max(0, g.water - g.room());
                g.water -= over;
                if (g.valley >= 0) {
                    gutters.get(g.valley).water += over;
                } else if (over > 0) {
                    g.spilt += over;
                    spilt += over;
                    spilling.add(n);
                }
            }
            minutes++;
            return spilling;
        }

        State after(int rain, int howMany) {
            State s = copy();
            for (int m = 0; m < howMany; m++) {
                s.minute(rain);
            }
            return s;
        }

        void week() {
            weeks++;
            for (Gutter g : gutters) {
                g.leaves = Math.min(100, g.leaves + settings[1]);
            }
        }

        int stands() {
            return planes.stream().mapToInt(p -> p.water).sum() + gutters.stream().mapToInt(g -> g.water).sum();
        }

        int leaves() {
            return gutters.stream().mapToInt(g -> g.leaves).sum();
        }
    }

    private static boolean in(int value, int least, int most) {
        return least <= value && value <= most;
    }

    private static void index(boolean fine) {
        if (!fine) {
            throw new IndexOutOfBoundsException();
        }
    }

    private static void argument(boolean fine) {
        if (!fine) {
            throw new IllegalArgumentException();
        }
    }

    private static void allowed(boolean fine) {
        if (!fine) {
            throw new IllegalStateException();
        }
    }

    private void save() {
        saved.addLast(state.copy());
        if (saved.size() > 6) {
            saved.removeFirst();
        }
    }

    public int plane(int plane, int area, int slope, int gutter) {
        index(in(plane, 0, 5) && in(gutter, 0, 5));
        argument(in(area, 0, 200) && in(slope, 0, 9));
        save();
        Plane p = state.planes.get(plane);
        int previous = p.area;
        p.area = area;
        p.slope = slope;
        p.gutter = gutter;
        return previous;
    }

    public int gutter(int gutter, int size, int bore) {
        index(in(gutter, 0, 5));
        argument(in(size, 1, 500) && in(bore, 0, 99));
        save();
        Gutter g = state.gutters.get(gutter);
        int previous = g.size;
        g.size = size;
        g.bore = bore;
        return previous;
    }

    public int valley(int gutter, int to) {
        index(in(gutter, 0, 5) && in(to, -1, 5));
        argument(gutter != to);
        for (int at = to; at != -1; at = state.gutters.get(at).valley) {
            allowed(at != gutter);
        }
        save();
        int previous = state.gutters.get(gutter).valley;
        state.gutters.get(gutter).valley = to;
        return previous;
    }

    public int clean(int gutter) {
        index(in(gutter, 0, 5));
        save();
        int previous = state.gutters.get(gutter).leaves;
        state.gutters.get(gutter).leaves = 0;
        return previous;
    }

    public int set(int setting, int value) {
        index(in(setting, 0, 2));
        argument(in(value, 0, new int[] {600, 50, 99}[setting]));
        save();
        int previous = state.settings[setting];
        state.settings[setting] = value;
        return previous;
    }

    public int rain(int rain, int minutes) {
        argument(in(rain, 0, 99) && in(minutes, 1, 60));
        save();
        int before = state.spilt;
        state = state.after(rain, minutes);
        return state.spilt - before;
    }

    public int weeks(int weeks) {
        argument(in(weeks, 1, 52));
        save();
        for (int w = 0; w < weeks; w++) {
            state.week();
        }
        return state.leaves();
    }

    public int append(int code) {
        argument(in(code, 33, 126));
        allowed(buffer.length() < 60);
        buffer.append((char) code);
        return buffer.length();
    }

    public int clearBuffer() {
        int length = buffer.length();
        buffer.setLength(0);
        return length;
    }

    public int firstError() {
        for (int end = 1; end <= buffer.length(); end++) {
            Matcher matcher = TEXT.matcher(buffer.substring(0, end));
            if (!matcher.matches() && !matcher.hitEnd()) {
                return end - 1;
            }
        }
        return buffer.length();
    }

    public int play() {
        argument(TEXT.matcher(buffer).matches());
        save();
        int before = state.spilt;
        for (String part : buffer.toString().split(";")) {
            if (part.equals("w")) {
                state.week();
            } else if (part.startsWith("c")) {
                state.gutters.get(Integer.parseInt(part.substring(1))).leaves = 0;
            } else {
                String[] numbers = part.split("\\*");
                state = state.after(Integer.parseInt(numbers[0]), Integer.parseInt(numbers[1]));
            }
        }
        buffer.setLength(0);
        return state.spilt - before;
    }

    public int undo() {
        allowed(!saved.isEmpty());
        state = saved.removeLast();
        return saved.size();
    }

    public int planeOf(int plane, int what) {
        index(in(plane, 0, 5));
        argument(in(what, 0, 3));
        Plane p = state.planes.get(plane);
        return new int[] {p.area, p.slope, p.gutter, p.water}[what];
    }

    public int gutterOf(int gutter, int what) {
        index(in(gutter, 0, 5));
        argument(in(what, 0, 8));
        Gutter g = state.gutters.get(gutter);
        return new int[] {g.size, g.bore, g.leaves, g.valley, g.water, g.room(), g.takes(), g.spilt, g.drained}[what];
    }

    public int count(int what) {
        argument(in(what, 0, 8));
        return new int[] {state.minutes, state.weeks, state.rained, state.stands(), state.drained, state.spilt,
            state.backedUp, state.leaves(), saved.size()}[what];
    }

    public int setting(int setting) {
        index(in(setting, 0, 2));
        return state.settings[setting];
    }

    public int ifRained(int minutes, int what) {
        argument(in(minutes, 1, 60) && in(what, 0, 2));
        State then = state.after(state.settings[2], minutes);
        return new int[] {then.spilt - state.spilt, then.drained - state.drained, then.stands()}[what];
    }

    public int spillsFirst(int what) {
        argument(in(what, 0, 1));
        State then = state.copy();
        for (int minute = 1; minute <= 60; minute++) {
            List<Integer> spilling = then.minute(state.settings[2]);
            if (!spilling.isEmpty()) {
                return what == 0 ? spilling.get(0) : minute;
            }
        }
        return -1;
    }

    public int bestClean() {
        int best = -1;
        int least = Integer.MAX_VALUE;
        for (int n = 0; n < 6; n++) {
            State then = state.copy();
            then.gutters.get(n).leaves = 0;
            then = then.after(state.settings[2], 30);
            if (state.gutters.get(n).leaves != 0 && then.spilt < least) {
                best = n;
                least = then.spilt;
            }
        }
        return best;
    }

    public int mostRain(int minutes) {
        argument(in(minutes, 1, 60));
        int most = -1;
        for (int rain = 0; rain <= 99; rain++) {
            if (state.after(rain, minutes).spilt == state.spilt) {
                most = rain;
            }
        }
        return most;
    }

    public int dryIn() {
        State then = state.copy();
        int minutes = 0;
        while (then.stands() > 0 && minutes <= 300) {
            then.minute(0);
            minutes++;
        }
        return minutes <= 300 ? minutes : -1;
    }

    public double drainedShare() {
        return state.rained == 0 ? 1.0 : (double) state.drained / state.rained;
    }

    public long digest() {
        List<Long> values = new ArrayList<>();
        for (int what = 0; what < 9; what++) {
            values.add((long) count(what));
        }
        for (int setting : state.settings) {
            values.add((long) setting);
        }
        for (int n = 0; n < 24; n++) {
            values.add((long) planeOf(n / 4, n % 4));
        }
        for (int n = 0; n < 54; n++) {
            values.add((long) gutterOf(n / 9, n % 9));
        }
        for (int what = 0; what < 3; what++) {
            values.add((long) ifRained(20, what));
        }
        values.add((long) spillsFirst(0));
        values.add((long) spillsFirst(1));
        values.add((long) bestClean());
        values.add((long) mostRain(10));
        values.add((long) dryIn());
        values.add(Double.doubleToLongBits(drainedShare()));
        values.add((long) buffer.length());
        buffer.chars().forEach(code -> values.add((long) code));
        long hash = 3067;
        for (long value : values) {
            hash = 31 * hash + value;
        }
        return hash;
    }
}
