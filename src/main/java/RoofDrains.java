/** Roof drains: planes that send rain into gutters, gutters that drain, fill, spill and gather leaves. */
public final class RoofDrains {
    public static final int NONE = -1;

    private static final int PLANES = 6;
    private static final int GUTTERS = 6;
    private static final int MOST_AREA = 200;
    private static final int MOST_SLOPE = 9;
    private static final int MOST_SIZE = 500;
    private static final int MOST_BORE = 99;
    private static final int MOST_LEAVES = 100;
    private static final int MOST_RAIN = 99;
    private static final int MOST_MINUTES = 60;
    private static final int MOST_WEEKS = 52;

    private static final int DRAIN = 0;
    private static final int WEEKS_LEAVES = 1;
    private static final int THOUGHT_RAIN = 2;
    private static final int SETTINGS = 3;
    private static final int[] MOST_OF_SETTING = {600, 50, 99};

    private static final int LAST_PLANE_NUMBER = 3;
    private static final int LAST_GUTTER_NUMBER = 8;
    private static final int LAST_COUNT = 8;

    private static final int LEAST_CODE = 33;
    private static final int MOST_CODE = 126;

    private static final int BEST_CLEAN_MINUTES = 30;
    private static final int MOST_DRIPPING = 300;

    private final Roof roof;
    /** Whatever would be is tried out on this roof, so that nothing is changed and nothing is made anew. */
    private final Roof thought;
    private final SavedRoofs saved;
    private final RainText text;

    public RoofDrains() {
        roof = new Roof();
        thought = new Roof();
        saved = new SavedRoofs();
        text = new RainText();
    }

    // ---- the roof

    public int plane(int plane, int area, int slope, int gutter)
            throws IndexOutOfBoundsException, IllegalArgumentException {
        if (!isPlane(plane) || !isGutter(gutter)) {
            throw new IndexOutOfBoundsException("no such plane or gutter");
        }
        if (!isWithin(area, 0, MOST_AREA) || !isWithin(slope, 0, MOST_SLOPE)) {
            throw new IllegalArgumentException("area or slope out of range");
        }
        saved.keep(roof);
        return roof.changePlane(plane, area, slope, gutter);
    }

    public int gutter(int gutter, int size, int bore) throws IndexOutOfBoundsException, IllegalArgumentException {
        if (!isGutter(gutter)) {
            throw new IndexOutOfBoundsException("no such gutter");
        }
        if (!isWithin(size, 1, MOST_SIZE) || !isWithin(bore, 0, MOST_BORE)) {
            throw new IllegalArgumentException("size or bore out of range");
        }
        saved.keep(roof);
        return roof.changeGutter(gutter, size, bore);
    }

    public int valley(int gutter, int to)
            throws IndexOutOfBoundsException, IllegalArgumentException, IllegalStateException {
        if (!isGutter(gutter) || (to != NONE && !isGutter(to))) {
            throw new IndexOutOfBoundsException("no such gutter");
        }
        if (gutter == to) {
            throw new IllegalArgumentException("both gutters are the same");
        }
        if (roof.valleysLead(to, gutter)) {
            throw new IllegalStateException("water would come back");
        }
        saved.keep(roof);
        return roof.changeValley(gutter, to);
    }

    public int clean(int gutter) throws IndexOutOfBoundsException {
        if (!isGutter(gutter)) {
            throw new IndexOutOfBoundsException("no such gutter");
        }
        saved.keep(roof);
        return roof.takeLeaves(gutter);
    }

    public int set(int setting, int value) throws IndexOutOfBoundsException, IllegalArgumentException {
        if (!isSetting(setting)) {
            throw new IndexOutOfBoundsException("no such setting");
        }
        if (!isWithin(value, 0, MOST_OF_SETTING[setting])) {
            throw new IllegalArgumentException("value out of range");
        }
        saved.keep(roof);
        return roof.changeSetting(setting, value);
    }

    public int rain(int rain, int minutes) throws IllegalArgumentException {
        if (!isWithin(rain, 0, MOST_RAIN) || !isWithin(minutes, 1, MOST_MINUTES)) {
            throw new IllegalArgumentException("rain or minutes out of range");
        }
        saved.keep(roof);
        int before = roof.spiltLitres();
        roof.passMinutes(rain, minutes);
        return roof.spiltLitres() - before;
    }

    public int weeks(int weeks) throws IllegalArgumentException {
        if (!isWithin(weeks, 1, MOST_WEEKS)) {
            throw new IllegalArgumentException("weeks out of range");
        }
        saved.keep(roof);
        for (int week = 0; week < weeks; week++) {
            roof.passWeek();
        }
        return roof.leavesTogether();
    }

    // ---- texts

    public int append(int code) throws IllegalArgumentException, IllegalStateException {
        if (!isWithin(code, LEAST_CODE, MOST_CODE)) {
            throw new IllegalArgumentException("no character of the buffer");
        }
        if (text.isFull()) {
            throw new IllegalStateException("the buffer is full");
        }
        text.add(code);
        return text.length();
    }

    public int clearBuffer() {
        int length = text.length();
        text.empty();
        return length;
    }

    public int firstError() {
        return text.firstWrong();
    }

    public int play() throws IllegalArgumentException {
        if (!text.isComplete()) {
            throw new IllegalArgumentException("not complete rain as a text");
        }
        saved.keep(roof);
        int before = roof.spiltLitres();
        text.playOn(roof);
        text.empty();
        return roof.spiltLitres() - before;
    }

    public int undo() throws IllegalStateException {
        Roof latest = saved.dropLatest();
        if (latest == null) {
            throw new IllegalStateException("no saved state");
        }
        roof.copyFrom(latest);
        return saved.held();
    }

    // ---- looks; nothing is changed

    public int planeOf(int plane, int what) throws IndexOutOfBoundsException, IllegalArgumentException {
        if (!isPlane(plane)) {
            throw new IndexOutOfBoundsException("no such plane");
        }
        if (!isWithin(what, 0, LAST_PLANE_NUMBER)) {
            throw new IllegalArgumentException("what is not 0 to 3");
        }
        return roof.planeNumber(plane, what);
    }

    public int gutterOf(int gutter, int what) throws IndexOutOfBoundsException, IllegalArgumentException {
        if (!isGutter(gutter)) {
            throw new IndexOutOfBoundsException("no such gutter");
        }
        if (!isWithin(what, 0, LAST_GUTTER_NUMBER)) {
            throw new IllegalArgumentException("what is not 0 to 8");
        }
        return roof.gutterNumber(gutter, what);
    }

    public int count(int what) throws IllegalArgumentException {
        switch (what) {
            case 0:
                return roof.minutesGone();
            case 1:
                return roof.weeksPassed();
            case 2:
                return roof.rainedLitres();
            case 3:
                return roof.standingLitres();
            case 4:
                return roof.drainedLitres();
            case 5:
                return roof.spiltLitres();
            case 6:
                return roof.backedUpMinutes();
            case 7:
                return roof.leavesTogether();
            case 8:
                return saved.held();
            default:
                throw new IllegalArgumentException("what is not 0 to 8");
        }
    }

    public int setting(int setting) throws IndexOutOfBoundsException {
        if (!isSetting(setting)) {
            throw new IndexOutOfBoundsException("no such setting");
        }
        return roof.settingValue(setting);
    }

    // ---- what would be; nothing is changed

    public int ifRained(int minutes, int what) throws IllegalArgumentException {
        if (!isWithin(minutes, 1, MOST_MINUTES) || !isWithin(what, 0, 2)) {
            throw new IllegalArgumentException("minutes or what out of range");
        }
        thought.copyFrom(roof);
        thought.passMinutes(roof.settingValue(THOUGHT_RAIN), minutes);
        if (what == 0) {
            return thought.spiltLitres() - roof.spiltLitres();
        }
        if (what == 1) {
            return thought.drainedLitres() - roof.drainedLitres();
        }
        return thought.standingLitres();
    }

    public int spillsFirst(int what) throws IllegalArgumentException {
        if (!isWithin(what, 0, 1)) {
            throw new IllegalArgumentException("what is not 0 or 1");
        }
        thought.copyFrom(roof);
        for (int minute = 1; minute <= MOST_MINUTES; minute++) {
            thought.passMinute(roof.settingValue(THOUGHT_RAIN));
            int gutter = thought.lowestThatSpiltMoreThanIn(roof);
            if (gutter != NONE) {
                return what == 0 ? gutter : minute;
            }
        }
        return NONE;
    }

    public int bestClean() {
        int best = NONE;
        int least = 0;
        for (int gutter = 0; gutter < GUTTERS; gutter++) {
            if (roof.hasLeaves(gutter)) {
                int litres = spiltIfCleaned(gutter);
                if (best == NONE || litres < least) {
                    best = gutter;
                    least = litres;
                }
            }
        }
        return best;
    }

    public int mostRain(int minutes) throws IllegalArgumentException {
        if (!isWithin(minutes, 1, MOST_MINUTES)) {
            throw new IllegalArgumentException("minutes out of range");
        }
        for (int rain = MOST_RAIN; rain >= 0; rain--) {
            if (!wouldSpill(rain, minutes)) {
                return rain;
            }
        }
        return NONE;
    }

    public int dryIn() {
        thought.copyFrom(roof);
        for (int minutes = 0; minutes <= MOST_DRIPPING; minutes++) {
            if (thought.standingLitres() == 0) {
                return minutes;
            }
            thought.passMinute(0);
        }
        return NONE;
    }

    public double drainedShare() {
        int rained = roof.rainedLitres();
        return rained == 0 ? 1.0 : (double) roof.drainedLitres() / (double) rained;
    }

    public long digest() {
        long hash = hashOfRoof(hashOfCounts(3067));
        for (int what = 0; what <= 2; what++) {
            hash = hashWith(hash, ifRained(20, what));
        }
        hash = hashWith(hash, spillsFirst(0));
        hash = hashWith(hash, spillsFirst(1));
        hash = hashWith(hash, bestClean());
        hash = hashWith(hash, mostRain(10));
        hash = hashWith(hash, dryIn());
        hash = hashWith(hash, bitsOfShare(drainedShare()));
        return hashOfText(hash);
    }

    // ---- what would be, tried out on the thought roof

    private int spiltIfCleaned(int gutter) {
        thought.copyFrom(roof);
        thought.takeLeaves(gutter);
        thought.passMinutes(roof.settingValue(THOUGHT_RAIN), BEST_CLEAN_MINUTES);
        return thought.spiltLitres() - roof.spiltLitres();
    }

    private boolean wouldSpill(int rain, int minutes) {
        thought.copyFrom(roof);
        for (int minute = 0; minute < minutes; minute++) {
            thought.passMinute(rain);
            if (thought.lowestThatSpiltMoreThanIn(roof) != NONE) {
                return true;
            }
        }
        return false;
    }

    // ---- the hash

    private static long hashWith(long hash, long value) {
        return 31 * hash + value;
    }

    private long hashOfCounts(long start) {
        long hash = start;
        for (int what = 0; what <= LAST_COUNT; what++) {
            hash = hashWith(hash, count(what));
        }
        for (int setting = 0; setting < SETTINGS; setting++) {
            hash = hashWith(hash, roof.settingValue(setting));
        }
        return hash;
    }

    private long hashOfRoof(long start) {
        long hash = start;
        for (int plane = 0; plane < PLANES; plane++) {
            for (int what = 0; what <= LAST_PLANE_NUMBER; what++) {
                hash = hashWith(hash, roof.planeNumber(plane, what));
            }
        }
        for (int gutter = 0; gutter < GUTTERS; gutter++) {
            for (int what = 0; what <= LAST_GUTTER_NUMBER; what++) {
                hash = hashWith(hash, roof.gutterNumber(gutter, what));
            }
        }
        return hash;
    }

    private long hashOfText(long start) {
        long hash = hashWith(start, text.length());
        for (int index = 0; index < text.length(); index++) {
            hash = hashWith(hash, text.codeAt(index));
        }
        return hash;
    }

    /** LANGUAGE.md leaves out Double.doubleToLongBits, so the bits are put together here, for 0.0 to 1.0. */
    private static long bitsOfShare(double share) {
        if (share <= 0.0) {
            return 0L;
        }
        double scaled = share;
        long doublings = 0L;
        while (scaled < 1.0 && doublings < 1022L) {
            scaled = scaled * 2.0;
            doublings++;
        }
        double fraction = (scaled - 1.0) * (double) (1L << 52);
        return ((1023L - doublings) << 52) + (long) fraction;
    }

    // ---- ranges

    private static boolean isWithin(int value, int least, int most) {
        return value >= least && value <= most;
    }

    private static boolean isPlane(int plane) {
        return plane >= 0 && plane < PLANES;
    }

    private static boolean isGutter(int gutter) {
        return gutter >= 0 && gutter < GUTTERS;
    }

    private static boolean isSetting(int setting) {
        return setting >= 0 && setting < SETTINGS;
    }

    /** All that undo restores: planes, gutters, settings, and what is counted so far. */
    private static final class Roof {
        private final int[] area;
        private final int[] slope;
        private final int[] leadsTo;
        private final int[] onPlane;

        private final int[] size;
        private final int[] bore;
        private final int[] leaves;
        private final int[] valleyTo;
        private final int[] inGutter;
        private final int[] spilt;
        private final int[] drained;

        private final int[] values;
        private int minutesGone;
        private int weeksPassed;
        private int rained;
        private int backedUp;

        Roof() {
            area = new int[PLANES];
            slope = new int[PLANES];
            leadsTo = new int[PLANES];
            onPlane = new int[PLANES];
            for (int plane = 0; plane < PLANES; plane++) {
                area[plane] = 40;
                slope[plane] = 3;
                leadsTo[plane] = plane;
            }
            size = new int[GUTTERS];
            bore = new int[GUTTERS];
            leaves = new int[GUTTERS];
            valleyTo = new int[GUTTERS];
            inGutter = new int[GUTTERS];
            spilt = new int[GUTTERS];
            drained = new int[GUTTERS];
            for (int gutter = 0; gutter < GUTTERS; gutter++) {
                size[gutter] = 60;
                bore[gutter] = 20;
                valleyTo[gutter] = NONE;
            }
            values = new int[SETTINGS];
            values[DRAIN] = 100;
            values[WEEKS_LEAVES] = 4;
            values[THOUGHT_RAIN] = 20;
        }

        void copyFrom(Roof other) {
            System.arraycopy(other.area, 0, area, 0, PLANES);
            System.arraycopy(other.slope, 0, slope, 0, PLANES);
            System.arraycopy(other.leadsTo, 0, leadsTo, 0, PLANES);
            System.arraycopy(other.onPlane, 0, onPlane, 0, PLANES);
            System.arraycopy(other.size, 0, size, 0, GUTTERS);
            System.arraycopy(other.bore, 0, bore, 0, GUTTERS);
            System.arraycopy(other.leaves, 0, leaves, 0, GUTTERS);
            System.arraycopy(other.valleyTo, 0, valleyTo, 0, GUTTERS);
            System.arraycopy(other.inGutter, 0, inGutter, 0, GUTTERS);
            System.arraycopy(other.spilt, 0, spilt, 0, GUTTERS);
            System.arraycopy(other.drained, 0, drained, 0, GUTTERS);
            System.arraycopy(other.values, 0, values, 0, SETTINGS);
            minutesGone = other.minutesGone;
            weeksPassed = other.weeksPassed;
            rained = other.rained;
            backedUp = other.backedUp;
        }

        // -- changes; the callers have looked at the indexes and ranges

        int changePlane(int plane, int newArea, int newSlope, int gutter) {
            int previous = area[plane];
            area[plane] = newArea;
            slope[plane] = newSlope;
            leadsTo[plane] = gutter;
            return previous;
        }

        int changeGutter(int gutter, int newSize, int newBore) {
            int previous = size[gutter];
            size[gutter] = newSize;
            bore[gutter] = newBore;
            return previous;
        }

        int changeValley(int gutter, int to) {
            int previous = valleyTo[gutter];
            valleyTo[gutter] = to;
            return previous;
        }

        int takeLeaves(int gutter) {
            int previous = leaves[gutter];
            leaves[gutter] = 0;
            return previous;
        }

        int changeSetting(int setting, int value) {
            int previous = values[setting];
            values[setting] = value;
            return previous;
        }

        boolean valleysLead(int from, int to) {
            int at = from;
            for (int steps = 0; steps < GUTTERS && isGutter(at); steps++) {
                if (at == to) {
                    return true;
                }
                at = valleyTo[at];
            }
            return false;
        }

        // -- time

        void passMinutes(int rain, int minutes) {
            for (int minute = 0; minute < minutes; minute++) {
                passMinute(rain);
            }
        }

        void passMinute(int rain) {
            for (int plane = 0; plane < PLANES; plane++) {
                wetPlane(plane, rain);
            }
            emptyIntoDrain();
            for (int gutter = 0; gutter < GUTTERS; gutter++) {
                overflow(gutter);
            }
            minutesGone++;
        }

        void passWeek() {
            for (int gutter = 0; gutter < GUTTERS; gutter++) {
                leaves[gutter] = Math.min(MOST_LEAVES, leaves[gutter] + values[WEEKS_LEAVES]);
            }
            weeksPassed++;
        }

        private void wetPlane(int plane, int rain) {
            int litres = area[plane] * rain / 10;
            rained += litres;
            onPlane[plane] += litres;
            int flow = onPlane[plane] * (5 + slope[plane]) / 14;
            if (flow == 0 && onPlane[plane] > 0) {
                flow = 1;
            }
            onPlane[plane] -= flow;
            int gutter = leadsTo[plane];
            if (isGutter(gutter)) {
                inGutter[gutter] += flow;
            }
        }

        private void emptyIntoDrain() {
            int left = values[DRAIN];
            boolean backsUp = false;
            for (int gutter = 0; gutter < GUTTERS; gutter++) {
                int wanted = Math.min(pipeTakes(gutter), inGutter[gutter]);
                int sent = Math.min(wanted, left);
                inGutter[gutter] -= sent;
                drained[gutter] += sent;
                left -= sent;
                backsUp = backsUp || sent < wanted;
            }
            if (backsUp) {
                backedUp++;
            }
        }

        private void overflow(int gutter) {
            int tooMuch = inGutter[gutter] - room(gutter);
            if (tooMuch <= 0) {
                return;
            }
            inGutter[gutter] -= tooMuch;
            int to = valleyTo[gutter];
            if (isGutter(to)) {
                inGutter[to] += tooMuch;
            } else {
                spilt[gutter] += tooMuch;
            }
        }

        private int room(int gutter) {
            return size[gutter] * (100 - leaves[gutter]) / 100;
        }

        private int pipeTakes(int gutter) {
            int litres = bore[gutter] * (100 - leaves[gutter]) / 100;
            return litres == 0 && bore[gutter] != 0 ? 1 : litres;
        }

        // -- looks

        int planeNumber(int plane, int what) {
            switch (what) {
                case 0:
                    return area[plane];
                case 1:
                    return slope[plane];
                case 2:
                    return leadsTo[plane];
                default:
                    return onPlane[plane];
            }
        }

        int gutterNumber(int gutter, int what) {
            switch (what) {
                case 0:
                    return size[gutter];
                case 1:
                    return bore[gutter];
                case 2:
                    return leaves[gutter];
                case 3:
                    return valleyTo[gutter];
                case 4:
                    return inGutter[gutter];
                case 5:
                    return room(gutter);
                case 6:
                    return pipeTakes(gutter);
                case 7:
                    return spilt[gutter];
                default:
                    return drained[gutter];
            }
        }

        boolean hasLeaves(int gutter) {
            return leaves[gutter] > 0;
        }

        int lowestThatSpiltMoreThanIn(Roof earlier) {
            for (int gutter = 0; gutter < GUTTERS; gutter++) {
                if (spilt[gutter] > earlier.spilt[gutter]) {
                    return gutter;
                }
            }
            return NONE;
        }

        int settingValue(int setting) {
            return values[setting];
        }

        int minutesGone() {
            return minutesGone;
        }

        int weeksPassed() {
            return weeksPassed;
        }

        int rainedLitres() {
            return rained;
        }

        int backedUpMinutes() {
            return backedUp;
        }

        int standingLitres() {
            return sumOf(onPlane) + sumOf(inGutter);
        }

        int drainedLitres() {
            return sumOf(drained);
        }

        int spiltLitres() {
            return sumOf(spilt);
        }

        int leavesTogether() {
            return sumOf(leaves);
        }

        private static int sumOf(int[] numbers) {
            int sum = 0;
            for (int number : numbers) {
                sum += number;
            }
            return sum;
        }
    }

    /** The latest saved states, as a ring: its rows are made when first needed and used again after that. */
    private static final class SavedRoofs {
        private static final int MOST_HELD = 6;

        private final Roof[] rows;
        private int oldest;
        private int held;

        SavedRoofs() {
            rows = new Roof[MOST_HELD];
        }

        int held() {
            return held;
        }

        void keep(Roof roof) {
            if (held == MOST_HELD) {
                oldest = (oldest + 1) % MOST_HELD;
                held--;
            }
            int next = (oldest + held) % MOST_HELD;
            Roof row = rows[next];
            if (row == null) {
                row = new Roof();
                rows[next] = row;
            }
            row.copyFrom(roof);
            held++;
        }

        /** The latest state, which stays as it is until the next one is kept; null if there is none. */
        Roof dropLatest() {
            if (held == 0) {
                return null;
            }
            held--;
            return rows[(oldest + held) % MOST_HELD];
        }
    }

    /** The buffer, and the rain as a text in it. */
    private static final class RainText {
        private static final int MOST_LENGTH = 60;

        // What is due next, when a text has been read so far.
        private static final int WRONG = 0;
        private static final int PART = 1;
        private static final int RAIN_DIGIT_OR_STAR = 2;
        private static final int STAR = 3;
        private static final int MINUTES = 4;
        private static final int DIGIT_OR_END = 5;
        private static final int ZERO_OR_END = 6;
        private static final int END = 7;
        private static final int GUTTER = 8;

        private final int[] codes;
        private int length;

        RainText() {
            codes = new int[MOST_LENGTH];
        }

        int length() {
            return length;
        }

        boolean isFull() {
            return length >= MOST_LENGTH;
        }

        void add(int code) {
            codes[length] = code;
            length++;
        }

        void empty() {
            length = 0;
        }

        int codeAt(int index) {
            return codes[index];
        }

        int firstWrong() {
            int due = PART;
            for (int index = 0; index < length; index++) {
                due = dueAfter(due, codes[index]);
                if (due == WRONG) {
                    return index;
                }
            }
            return length;
        }

        boolean isComplete() {
            int due = PART;
            for (int index = 0; index < length; index++) {
                due = dueAfter(due, codes[index]);
            }
            return mayEnd(due);
        }

        private static boolean mayEnd(int due) {
            return due == DIGIT_OR_END || due == ZERO_OR_END || due == END;
        }

        private static int dueAfter(int due, int code) {
            if (code == ';') {
                return mayEnd(due) ? PART : WRONG;
            }
            switch (due) {
                case PART:
                    return dueAfterFirst(code);
                case RAIN_DIGIT_OR_STAR:
                    return isWithin(code, '0', '9') ? STAR : dueAfterStar(code);
                case STAR:
                    return dueAfterStar(code);
                case MINUTES:
                    return dueAfterMinutesDigit(code);
                case DIGIT_OR_END:
                    return isWithin(code, '0', '9') ? END : WRONG;
                case ZERO_OR_END:
                    return code == '0' ? END : WRONG;
                case GUTTER:
                    return isWithin(code, '0', '5') ? END : WRONG;
                default:
                    return WRONG;
            }
        }

        private static int dueAfterFirst(int code) {
            if (code == 'w') {
                return END;
            }
            if (code == 'c') {
                return GUTTER;
            }
            if (code == '0') {
                return STAR;
            }
            return isWithin(code, '1', '9') ? RAIN_DIGIT_OR_STAR : WRONG;
        }

        private static int dueAfterStar(int code) {
            return code == '*' ? MINUTES : WRONG;
        }

        /** Minutes end at 60: behind 1 to 5 any digit may come, behind 6 only 0, behind 7 to 9 none. */
        private static int dueAfterMinutesDigit(int code) {
            if (isWithin(code, '1', '5')) {
                return DIGIT_OR_END;
            }
            if (code == '6') {
                return ZERO_OR_END;
            }
            return isWithin(code, '7', '9') ? END : WRONG;
        }

        /** Only for a complete text, so each part is whole and each number in its range. */
        void playOn(Roof roof) {
            int kind = '*';
            int rain = 0;
            int number = 0;
            for (int index = 0; index < length; index++) {
                int code = codes[index];
                if (code == ';') {
                    playPart(roof, kind, rain, number);
                    number = 0;
                } else if (isWithin(code, '0', '9')) {
                    number = number * 10 + code - '0';
                } else {
                    kind = code;
                    rain = number;
                    number = 0;
                }
            }
            playPart(roof, kind, rain, number);
        }

        private static void playPart(Roof roof, int kind, int rain, int number) {
            if (kind == 'w') {
                roof.passWeek();
            } else if (kind == 'c') {
                cleanOn(roof, number);
            } else {
                roof.passMinutes(rain, number);
            }
        }

        private static void cleanOn(Roof roof, int gutter) {
            if (isGutter(gutter)) {
                roof.takeLeaves(gutter);
            }
        }
    }
}
