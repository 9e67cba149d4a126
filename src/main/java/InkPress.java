/** A press that inks in zones, with its steering, its marks and its jobs; see README.md. */
public final class InkPress {
    public static final int UNKNOWN = -1, OUTSIDE = -2, STATE = -3, FULL = -4, NO = -5, NONE = -6;
    public static final int LOST = -1000000;

    private static final int FEWEST_ZONES = 2, MOST_ZONES = 8, FIRST_ZONES = 4;
    private static final int FEWEST_ROLLERS = 2, MOST_ROLLERS = 5, FIRST_ROLLERS = 3;
    private static final int MOST_SHEETS = 1000, MOST_AT_ONCE = 200;
    private static final int MOST_KEY = 100, MOST_COVER = 100;

    private static final int KEY = 0, COVER = 1, TARGET = 2, DENSITY = 3;

    private static final int FEED = 0, PASS = 1, DRIFT = 2, TAKE = 3, GAIN = 4, STEP = 5;
    private static final int TOLERANCE = 6, EVERY = 7, HOLD = 8;

    private static final int STRETCH = 0, TURN = 1, ACROSS = 2, UP = 3;

    private final Rules rules;
    private final Zones zones;
    private final Train train;
    private final SheetLog sheets;
    private final PastJobs pastJobs;
    private final Marks marks;
    private final Jobs jobs;
    private boolean steering;

    public InkPress() {
        rules = new Rules();
        zones = new Zones();
        train = new Train();
        sheets = new SheetLog();
        pastJobs = new PastJobs();
        marks = new Marks();
        jobs = new Jobs();
        steering = false;
    }

    // ---- 1 the press

    public int press(int zones, int rollers) {
        if (!within(zones, FEWEST_ZONES, MOST_ZONES) || !within(rollers, FEWEST_ROLLERS, MOST_ROLLERS)) {
            return OUTSIDE;
        }
        this.zones.restart(zones);
        train.restart(zones, rollers);
        sheets.restart();
        steering = false;
        return zones * rollers;
    }

    public int rule(int which, int v) {
        if (!rules.has(which)) {
            return LOST + UNKNOWN;
        }
        if (!rules.allows(which, v)) {
            return LOST + OUTSIDE;
        }
        return rules.change(which, v);
    }

    public int set(int zone, int what, int v) {
        if (!zones.has(zone)) {
            return UNKNOWN;
        }
        if (!within(what, KEY, TARGET) || !zones.allows(what, v)) {
            return OUTSIDE;
        }
        return zones.change(zone, what, v);
    }

    public int zone(int zone, int what) {
        if (!zones.has(zone)) {
            return UNKNOWN;
        }
        if (!within(what, KEY, DENSITY)) {
            return OUTSIDE;
        }
        return what == DENSITY ? sheets.latestDensity(zone) : zones.valueOf(zone, what);
    }

    public int ink(int roller, int zone) {
        if (!train.has(roller) || !zones.has(zone)) {
            return UNKNOWN;
        }
        return train.inkAt(roller, zone);
    }

    public int print(int n) {
        if (!within(n, 1, MOST_AT_ONCE)) {
            return OUTSIDE;
        }
        if (sheets.count + n > MOST_SHEETS) {
            return STATE;
        }
        for (int i = 0; i < n; i++) {
            printSheet();
            if (steering && isSteeringDue()) {
                steerKeys();
            }
        }
        return sheets.count;
    }

    // ---- 2 steering

    public int steer(boolean on) {
        int was = steering ? 1 : 0;
        steering = on;
        return was;
    }

    public int good(int sheet) {
        if (!sheets.has(sheet)) {
            return UNKNOWN;
        }
        return sheets.wasGood(sheet) ? 1 : 0;
    }

    public int density(int sheet, int zone) {
        if (!sheets.has(sheet) || !zones.has(zone)) {
            return UNKNOWN;
        }
        return sheets.densityOn(sheet, zone);
    }

    public int past(int cover, int key) {
        if (!within(cover, 0, MOST_COVER) || !within(key, 0, MOST_KEY)) {
            return OUTSIDE;
        }
        if (pastJobs.isFull()) {
            return FULL;
        }
        return pastJobs.add(cover, key);
    }

    public int preset(int cover) {
        if (!within(cover, 0, MOST_COVER)) {
            return OUTSIDE;
        }
        if (pastJobs.isEmpty()) {
            return STATE;
        }
        return pastJobs.keyFor(cover);
    }

    public int presets() {
        if (pastJobs.isEmpty()) {
            return STATE;
        }
        int others = 0;
        for (int z = 0; z < zones.count; z++) {
            int key = pastJobs.keyFor(zones.valueOf(z, COVER));
            if (zones.change(z, KEY, key) != key) {
                others++;
            }
        }
        return others;
    }

    public int told(int what) {
        switch (what) {
            case 0: return sheets.count;
            case 1: return sheets.goodCount;
            case 2: return sheets.count - sheets.goodCount;
            case 3: return sheets.start;
            case 4: return train.fed;
            case 5: return train.inkOn();
            case 6: return train.onPaper;
            case 7: return train.onBars;
            case 8: return steering ? 1 : 0;
            case 9: return pastJobs.count;
            default: return LOST + OUTSIDE;
        }
    }

    // ---- 3 marks

    public int mark(int x, int y, int dx, int dy) {
        if (!Marks.isPlace(x) || !Marks.isPlace(y) || !Marks.isOffset(dx) || !Marks.isOffset(dy)) {
            return OUTSIDE;
        }
        if (marks.isFull()) {
            return FULL;
        }
        return marks.add(x, y, dx, dy);
    }

    public int clear() {
        return marks.removeAll();
    }

    public long fit(int which, int part) {
        if (!within(which, STRETCH, UP) || !within(part, 0, 1)) {
            return LOST + OUTSIDE;
        }
        if (!marks.isTold()) {
            return LOST + NO;
        }
        long upper = marks.upper(which);
        long lower = marks.lower(which);
        long common = commonDivisor(upper, lower);
        long number = part == 0 ? upper : lower;
        return common > 0 ? number / common : number;
    }

    public int off(int i, int way) {
        if (!marks.has(i)) {
            return LOST + UNKNOWN;
        }
        if (!within(way, 0, 1)) {
            return LOST + OUTSIDE;
        }
        if (!marks.isTold()) {
            return LOST + NO;
        }
        return way == 0 ? marks.offAcross(i) : marks.offUp(i);
    }

    // ---- 4 jobs

    public int job(int colour, int paper) {
        if (!Jobs.isColour(colour) || !Jobs.isPaper(paper)) {
            return OUTSIDE;
        }
        if (jobs.isFull()) {
            return FULL;
        }
        return jobs.add(colour, paper);
    }

    public int forget() {
        return jobs.removeAll();
    }

    public int wash(int from, int to, int cost) {
        if (!Jobs.isColour(from) || !Jobs.isColour(to)) {
            return UNKNOWN;
        }
        if (!Jobs.isWashCost(cost)) {
            return OUTSIDE;
        }
        if (from == to) {
            return NO;
        }
        return jobs.changeWash(from, to, cost);
    }

    public int order() {
        return jobs.leastCosts();
    }

    public int orderAt(int i) {
        return jobs.has(i) ? jobs.inOrder(i) : NONE;
    }

    // ---- what the calls share

    private void printSheet() {
        for (int z = 0; z < zones.count; z++) {
            train.feedZone(z, zones.valueOf(z, KEY) * rules.valueOf(FEED));
        }
        train.passOn(rules.valueOf(PASS));
        train.driftAside(rules.valueOf(DRIFT));
        sheets.begin();
        boolean isGood = true;
        for (int z = 0; z < zones.count; z++) {
            int density = 10 * train.takeOff(z, rules.valueOf(TAKE), zones.valueOf(z, COVER));
            sheets.note(z, density);
            int away = Math.abs(density - zones.valueOf(z, TARGET));
            isGood = isGood && away <= rules.valueOf(TOLERANCE);
        }
        sheets.judge(isGood, rules.valueOf(HOLD));
    }

    private boolean isSteeringDue() {
        int every = rules.valueOf(EVERY);
        return every > 0 && sheets.count % every == 0;
    }

    private void steerKeys() {
        int step = rules.valueOf(STEP);
        for (int z = 0; z < zones.count; z++) {
            int lacking = zones.valueOf(z, TARGET) - sheets.latestDensity(z);
            int more = held(lacking * rules.valueOf(GAIN) / 1000, -step, step);
            zones.change(z, KEY, held(zones.valueOf(z, KEY) + more, 0, MOST_KEY));
        }
    }

    private static boolean within(int v, int least, int most) {
        return v >= least && v <= most;
    }

    private static int held(long v, int least, int most) {
        return (int) Math.max(least, Math.min(most, v));
    }

    /** Above 0 as long as one of the two is not 0. */
    private static long commonDivisor(long a, long b) {
        long high = Math.abs(a);
        long low = Math.abs(b);
        // Euclid's way ends within 92 steps for any two longs.
        for (int i = 0; i < 100 && low != 0; i++) {
            long rest = high % low;
            high = low;
            low = rest;
        }
        return high;
    }

    private static final class Rules {
        private static final int[] LEAST = {1, 1, 0, 1, 1, 1, 0, 1, 1};
        private static final int[] MOST = {20, 90, 40, 90, 200, 100, 500, 50, 20};
        private static final int[] FIRST = {10, 50, 10, 40, 50, 10, 10, 5, 2};

        private final int[] values;

        Rules() {
            values = FIRST.clone();
        }

        boolean has(int which) {
            return which >= 0 && which < values.length;
        }

        boolean allows(int which, int v) {
            return within(v, LEAST[which], MOST[which]);
        }

        int valueOf(int which) {
            return values[which];
        }

        int change(int which, int v) {
            int was = values[which];
            values[which] = v;
            return was;
        }
    }

    /** What is set in each zone: its key, its cover and its target. */
    private static final class Zones {
        private static final int[] MOST = {MOST_KEY, MOST_COVER, 1000};
        private static final int[] FIRST = {0, 20, 100};

        private final int[] values;
        private int count;

        Zones() {
            values = new int[FIRST.length * MOST_ZONES];
            restart(FIRST_ZONES);
        }

        void restart(int zones) {
            count = zones;
            for (int i = 0; i < values.length; i++) {
                values[i] = FIRST[i / MOST_ZONES];
            }
        }

        boolean has(int zone) {
            return zone >= 0 && zone < count;
        }

        boolean allows(int what, int v) {
            return within(v, 0, MOST[what]);
        }

        int valueOf(int zone, int what) {
            return values[what * MOST_ZONES + zone];
        }

        int change(int zone, int what, int v) {
            int place = what * MOST_ZONES + zone;
            int was = values[place];
            values[place] = v;
            return was;
        }
    }

    /** The rollers with the ink on them, and where all ink came from and went to. */
    private static final class Train {
        private final int[] ink;
        private int zones;
        private int rollers;
        private int fed;
        private int onPaper;
        private int onBars;

        Train() {
            ink = new int[MOST_ROLLERS * MOST_ZONES];
            restart(FIRST_ZONES, FIRST_ROLLERS);
        }

        void restart(int zones, int rollers) {
            this.zones = zones;
            this.rollers = rollers;
            fed = 0;
            onPaper = 0;
            onBars = 0;
            for (int i = 0; i < ink.length; i++) {
                ink[i] = 0;
            }
        }

        boolean has(int roller) {
            return roller >= 0 && roller < rollers;
        }

        int inkAt(int roller, int zone) {
            return ink[roller * MOST_ZONES + zone];
        }

        int inkOn() {
            int sum = 0;
            // Places beyond the last zone and roller never get ink.
            for (int i = 0; i < ink.length; i++) {
                sum += ink[i];
            }
            return sum;
        }

        void feedZone(int zone, int amount) {
            ink[zone] += amount;
            fed += amount;
        }

        void passOn(int hundredths) {
            for (int r = 0; r + 1 < rollers; r++) {
                for (int z = 0; z < zones; z++) {
                    int place = r * MOST_ZONES + z;
                    int going = share(ink[place], hundredths, 100);
                    ink[place] -= going;
                    ink[place + MOST_ZONES] += going;
                }
            }
        }

        void driftAside(int hundredths) {
            for (int r = 0; r < rollers; r++) {
                int first = r * MOST_ZONES;
                // Both are kept from ahead of the drift: a place changes as soon as its left side is done.
                int left = share(ink[first], hundredths, 200);
                for (int z = 1; z < zones; z++) {
                    int right = share(ink[first + z], hundredths, 200);
                    ink[first + z - 1] += right - left;
                    ink[first + z] += left - right;
                    left = right;
                }
            }
        }

        /** Answers what went onto the bar. */
        int takeOff(int zone, int take, int cover) {
            int place = (rollers - 1) * MOST_ZONES + zone;
            int paper = share(ink[place], take * cover, 10000);
            int bar = ink[place] / 100;
            ink[place] -= paper + bar;
            onPaper += paper;
            onBars += bar;
            return bar;
        }

        /** Goes by long, as a roller may hold so much that an int would wrap. */
        private static int share(int amount, int parts, int whole) {
            return whole > 0 ? (int) ((long) amount * parts / whole) : 0;
        }
    }

    /** What was read on each sheet; sheets are numbered from 1 on. */
    private static final class SheetLog {
        private final int[] densities;
        private final boolean[] good;
        private int count;
        private int goodCount;
        private int goodInARow;
        private int start;

        SheetLog() {
            densities = new int[MOST_SHEETS * MOST_ZONES];
            good = new boolean[MOST_SHEETS];
            restart();
        }

        void restart() {
            count = 0;
            goodCount = 0;
            goodInARow = 0;
            start = NONE;
        }

        boolean has(int sheet) {
            return sheet >= 1 && sheet <= count;
        }

        void begin() {
            count++;
        }

        void note(int zone, int density) {
            densities[(count - 1) * MOST_ZONES + zone] = density;
        }

        void judge(boolean isGood, int hold) {
            good[count - 1] = isGood;
            goodInARow = isGood ? goodInARow + 1 : 0;
            if (isGood) {
                goodCount++;
            }
            if (start == NONE && goodInARow >= hold) {
                start = count;
            }
        }

        boolean wasGood(int sheet) {
            return good[sheet - 1];
        }

        int densityOn(int sheet, int zone) {
            return densities[(sheet - 1) * MOST_ZONES + zone];
        }

        int latestDensity(int zone) {
            return count > 0 ? densityOn(count, zone) : 0;
        }
    }

    /** Held as sums alone, as nothing else of a past job is ever asked for. */
    private static final class PastJobs {
        private static final int MOST = 30;

        private int count;
        private long covers;
        private long keys;
        private long coversSquared;
        private long coversByKeys;

        PastJobs() {
            count = 0;
        }

        boolean isEmpty() {
            return count == 0;
        }

        boolean isFull() {
            return count >= MOST;
        }

        int add(int cover, int key) {
            count++;
            covers += cover;
            keys += key;
            coversSquared += cover * cover;
            coversByKeys += cover * key;
            return count;
        }

        int keyFor(int cover) {
            long lower = count * coversSquared - covers * covers;
            if (lower != 0) {
                long atZero = keys * coversSquared - covers * coversByKeys;
                long slope = count * coversByKeys - covers * keys;
                return held((atZero + cover * slope) / lower, 0, MOST_KEY);
            }
            return count > 0 ? (int) (keys / count) : 0;
        }
    }

    /** The marks with their sums; the fit is told by upper and lower numbers, so nothing is cut on the way. */
    private static final class Marks {
        private static final int MOST = 8, FARTHEST = 1000, MOST_OFF = 100;

        private final int[] x;
        private final int[] y;
        private final int[] dx;
        private final int[] dy;
        private int count;
        private long sumX;
        private long sumY;
        private long sumDx;
        private long sumDy;
        private long sumSquares;
        private long sumOutward;
        private long sumAround;

        Marks() {
            x = new int[MOST];
            y = new int[MOST];
            dx = new int[MOST];
            dy = new int[MOST];
        }

        static boolean isPlace(int v) {
            return within(v, -FARTHEST, FARTHEST);
        }

        static boolean isOffset(int v) {
            return within(v, -MOST_OFF, MOST_OFF);
        }

        boolean has(int i) {
            return i >= 0 && i < count;
        }

        boolean isFull() {
            return count >= MOST;
        }

        int add(int atX, int atY, int offX, int offY) {
            x[count] = atX;
            y[count] = atY;
            dx[count] = offX;
            dy[count] = offY;
            count++;
            sumX += atX;
            sumY += atY;
            sumDx += offX;
            sumDy += offY;
            sumSquares += atX * atX + atY * atY;
            sumOutward += atX * offX + atY * offY;
            sumAround += atX * offY - atY * offX;
            return count;
        }

        int removeAll() {
            int were = count;
            count = 0;
            sumX = 0;
            sumY = 0;
            sumDx = 0;
            sumDy = 0;
            sumSquares = 0;
            sumOutward = 0;
            sumAround = 0;
            return were;
        }

        boolean isTold() {
            return spread() > 0;
        }

        long upper(int which) {
            switch (which) {
                case STRETCH: return stretch();
                case TURN: return turn();
                case ACROSS: return across();
                default: return up();
            }
        }

        long lower(int which) {
            return which == STRETCH || which == TURN ? spread() : spread() * count;
        }

        int offAcross(int i) {
            long made = count * (stretch() * x[i] - turn() * y[i]) + across();
            return inThousandths(dx[i], made);
        }

        int offUp(int i) {
            long made = count * (stretch() * y[i] + turn() * x[i]) + up();
            return inThousandths(dy[i], made);
        }

        private int inThousandths(int seen, long made) {
            long lower = spread() * count;
            return lower > 0 ? (int) (1000 * (seen * lower - made) / lower) : 0;
        }

        /** A of the document: above 0 if two marks stand at different places. */
        private long spread() {
            return count * sumSquares - sumX * sumX - sumY * sumY;
        }

        /** Of the spread. */
        private long stretch() {
            return count * sumOutward - sumX * sumDx - sumY * sumDy;
        }

        /** Of the spread. */
        private long turn() {
            return count * sumAround - sumX * sumDy + sumY * sumDx;
        }

        /** Of the spread times the marks. */
        private long across() {
            return sumDx * spread() - stretch() * sumX + turn() * sumY;
        }

        /** Of the spread times the marks. */
        private long up() {
            return sumDy * spread() - stretch() * sumY - turn() * sumX;
        }
    }

    private static final class Jobs {
        private static final int MOST = 7, COLOURS = 4, PAPERS = 6;
        private static final int MOST_WASH = 100, FIRST_WASH = 10, OTHER_PAPER = 5;
        // The press as it stands ahead of all jobs is one row more: colour 0, paper 0.
        private static final int AHEAD = MOST, ROWS = MOST + 1;

        private final int[] colours;
        private final int[] papers;
        private final int[] washes;
        /** By the set of jobs that are done and the row that was last: the least costs of all others. */
        private final int[] costsToCome;
        private final int[] best;
        private int count;
        private boolean isPlanned;

        Jobs() {
            colours = new int[ROWS];
            papers = new int[ROWS];
            washes = new int[COLOURS * COLOURS];
            costsToCome = new int[(1 << MOST) * ROWS];
            best = new int[MOST];
            for (int i = 0; i < washes.length; i++) {
                washes[i] = i / COLOURS == i % COLOURS ? 0 : FIRST_WASH;
            }
        }

        static boolean isColour(int v) {
            return v >= 0 && v < COLOURS;
        }

        static boolean isPaper(int v) {
            return v >= 0 && v < PAPERS;
        }

        static boolean isWashCost(int v) {
            return within(v, 0, MOST_WASH);
        }

        boolean has(int i) {
            return i >= 0 && i < count;
        }

        boolean isFull() {
            return count >= MOST;
        }

        int add(int colour, int paper) {
            colours[count] = colour;
            papers[count] = paper;
            count++;
            isPlanned = false;
            return count - 1;
        }

        int removeAll() {
            int were = count;
            count = 0;
            isPlanned = false;
            return were;
        }

        int changeWash(int from, int to, int cost) {
            int place = from * COLOURS + to;
            int was = washes[place];
            washes[place] = cost;
            isPlanned = false;
            return was;
        }

        int leastCosts() {
            plan();
            return costsToCome[AHEAD];
        }

        int inOrder(int i) {
            plan();
            return best[i];
        }

        private void plan() {
            if (isPlanned) {
                return;
            }
            for (int done = (1 << count) - 1; done > 0; done--) {
                for (int last = 0; last < count; last++) {
                    if (holds(done, last)) {
                        weigh(done, last);
                    }
                }
            }
            weigh(0, AHEAD);
            walk();
            isPlanned = true;
        }

        /** Every set that holds one job more must have been weighed. */
        private void weigh(int done, int last) {
            int next = bestNext(done, last);
            costsToCome[done * ROWS + last] = next == NONE ? 0 : costsBy(done, last, next);
        }

        private void walk() {
            int done = 0;
            int last = AHEAD;
            for (int place = 0; place < count; place++) {
                int next = bestNext(done, last);
                if (next == NONE) {
                    return;
                }
                best[place] = next;
                done |= 1 << next;
                last = next;
            }
        }

        /** Of several the lowest number, which makes the whole order the first by numbers. */
        private int bestNext(int done, int last) {
            int found = NONE;
            int least = 0;
            for (int next = 0; next < count; next++) {
                if (!holds(done, next)) {
                    int costs = costsBy(done, last, next);
                    if (found == NONE || costs < least) {
                        found = next;
                        least = costs;
                    }
                }
            }
            return found;
        }

        private int costsBy(int done, int last, int next) {
            int change = washes[colours[last] * COLOURS + colours[next]];
            int paper = papers[last] == papers[next] ? 0 : OTHER_PAPER;
            return change + paper + costsToCome[(done | 1 << next) * ROWS + next];
        }

        private static boolean holds(int done, int job) {
            return (done >> job & 1) == 1;
        }
    }
}
