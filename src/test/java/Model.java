import java.math.BigInteger;
import java.util.ArrayList;
import java.util.List;

/** The document once more, as plainly as can be and without regard to cost, to hold InkPress against. */
final class Model {
    private static final int UNKNOWN = -1, OUTSIDE = -2, STATE = -3, FULL = -4, NO = -5, NONE = -6, LOST = -1000000;
    private static final int[][] RULES = {
        {1, 20}, {1, 90}, {0, 40}, {1, 90}, {1, 200}, {1, 100}, {0, 500}, {1, 50}, {1, 20}};

    private final long[] rule = {10, 50, 10, 40, 50, 10, 10, 5, 2};
    private final List<int[]> past = new ArrayList<>();
    private final List<int[]> marks = new ArrayList<>();
    private final List<int[]> jobs = new ArrayList<>();
    private final int[][] wash = new int[4][4];
    private int n;
    private int r;
    private long[] key;
    private long[] cover;
    private long[] target;
    private long[][] ink;
    private List<long[]> densities;
    private List<Boolean> good;
    private long in;
    private long paper;
    private long bars;
    private int start;
    private boolean steering;
    private int leastCosts;
    private List<Integer> leastOrder;

    Model() {
        for (int a = 0; a < 4; a++) {
            for (int b = 0; b < 4; b++) {
                wash[a][b] = a == b ? 0 : 10;
            }
        }
        press(4, 3);
    }

    private static boolean in(long v, long low, long high) {
        return low <= v && v <= high;
    }

    long press(int zones, int rollers) {
        if (!in(zones, 2, 8) || !in(rollers, 2, 5)) {
            return OUTSIDE;
        }
        n = zones;
        r = rollers;
        key = new long[n];
        cover = new long[n];
        target = new long[n];
        for (int z = 0; z < n; z++) {
            cover[z] = 20;
            target[z] = 100;
        }
        ink = new long[r][n];
        densities = new ArrayList<>();
        good = new ArrayList<>();
        in = 0;
        paper = 0;
        bars = 0;
        start = NONE;
        steering = false;
        return (long) n * r;
    }

    long rule(int which, int v) {
        if (!in(which, 0, 8)) {
            return LOST - 1;
        }
        if (!in(v, RULES[which][0], RULES[which][1])) {
            return LOST - 2;
        }
        long was = rule[which];
        rule[which] = v;
        return was;
    }

    long set(int zone, int what, int v) {
        if (!in(zone, 0, n - 1)) {
            return UNKNOWN;
        }
        if (!in(what, 0, 2) || !in(v, 0, what == 2 ? 1000 : 100)) {
            return OUTSIDE;
        }
        long[] row = what == 0 ? key : what == 1 ? cover : target;
        long was = row[zone];
        row[zone] = v;
        return was;
    }

    long zone(int zone, int what) {
        if (!in(zone, 0, n - 1)) {
            return UNKNOWN;
        }
        if (!in(what, 0, 3)) {
            return OUTSIDE;
        }
        if (what == 3) {
            return densities.isEmpty() ? 0 : densities.get(densities.size() - 1)[zone];
        }
        return (what == 0 ? key : what == 1 ? cover : target)[zone];
    }

    long ink(int roller, int zone) {
        return in(roller, 0, r - 1) && in(zone, 0, n - 1) ? ink[roller][zone] : UNKNOWN;
    }

    long print(int sheets) {
        if (!in(sheets, 1, 200)) {
            return OUTSIDE;
        }
        if (good.size() + sheets > 1000) {
            return STATE;
        }
        for (int i = 0; i < sheets; i++) {
            sheet();
        }
        return good.size();
    }

    private void sheet() {
        for (int z = 0; z < n; z++) {
            ink[0][z] += key[z] * rule[0];
            in += key[z] * rule[0];
        }
        for (int k = 0; k < r - 1; k++) {
            for (int z = 0; z < n; z++) {
                long goes = ink[k][z] * rule[1] / 100;
                ink[k][z] -= goes;
                ink[k + 1][z] += goes;
            }
        }
        for (int k = 0; k < r; k++) {
            long[] before = ink[k].clone();
            for (int z = 0; z < n; z++) {
                long d = before[z] * rule[2] / 200;
                for (int side = -1; side <= 1; side += 2) {
                    if (in(z + side, 0, n - 1)) {
                        ink[k][z] -= d;
                        ink[k][z + side] += d;
                    }
                }
            }
        }
        long[] density = new long[n];
        boolean isGood = true;
        for (int z = 0; z < n; z++) {
            long there = ink[r - 1][z];
            long onPaper = there * rule[3] * cover[z] / 10000;
            long onBar = there / 100;
            ink[r - 1][z] = there - onPaper - onBar;
            paper += onPaper;
            bars += onBar;
            density[z] = onBar * 10;
            if (density[z] > target[z] + rule[6] || density[z] < target[z] - rule[6]) {
                isGood = false;
            }
        }
        densities.add(density);
        good.add(isGood);
        findStart();
        if (steering && good.size() % rule[7] == 0) {
            steerKeys(density);
        }
    }

    private void findStart() {
        if (start != NONE || good.size() < rule[8]) {
            return;
        }
        for (int back = 1; back <= rule[8]; back++) {
            if (!good.get(good.size() - back)) {
                return;
            }
        }
        start = good.size();
    }

    private void steerKeys(long[] density) {
        for (int z = 0; z < n; z++) {
            long more = (target[z] - density[z]) * rule[4] / 1000;
            if (more > rule[5]) {
                more = rule[5];
            }
            if (more < -rule[5]) {
                more = -rule[5];
            }
            key[z] += more;
            if (key[z] < 0) {
                key[z] = 0;
            }
            if (key[z] > 100) {
                key[z] = 100;
            }
        }
    }

    long steer(boolean on) {
        long was = steering ? 1 : 0;
        steering = on;
        return was;
    }

    long good(int sheet) {
        return in(sheet, 1, good.size()) ? good.get(sheet - 1) ? 1 : 0 : UNKNOWN;
    }

    long density(int sheet, int zone) {
        return in(sheet, 1, good.size()) && in(zone, 0, n - 1) ? densities.get(sheet - 1)[zone] : UNKNOWN;
    }

    long past(int ofCover, int ofKey) {
        if (!in(ofCover, 0, 100) || !in(ofKey, 0, 100)) {
            return OUTSIDE;
        }
        if (past.size() == 30) {
            return FULL;
        }
        past.add(new int[] {ofCover, ofKey});
        return past.size();
    }

    long preset(int c) {
        if (!in(c, 0, 100)) {
            return OUTSIDE;
        }
        if (past.isEmpty()) {
            return STATE;
        }
        long sx = 0;
        long sy = 0;
        long sxx = 0;
        long sxy = 0;
        for (int[] p : past) {
            sx += p[0];
            sy += p[1];
            sxx += (long) p[0] * p[0];
            sxy += (long) p[0] * p[1];
        }
        long m = past.size();
        long lower = m * sxx - sx * sx;
        if (lower == 0) {
            return sy / m;
        }
        long v = (sy * sxx - sx * sxy + c * (m * sxy - sx * sy)) / lower;
        return v < 0 ? 0 : v > 100 ? 100 : v;
    }

    long presets() {
        if (past.isEmpty()) {
            return STATE;
        }
        long others = 0;
        for (int z = 0; z < n; z++) {
            long v = preset((int) cover[z]);
            if (v != key[z]) {
                others++;
                key[z] = v;
            }
        }
        return others;
    }

    long told(int what) {
        long goodOnes = 0;
        for (boolean g : good) {
            goodOnes += g ? 1 : 0;
        }
        long on = 0;
        for (long[] row : ink) {
            for (long v : row) {
                on += v;
            }
        }
        long[] all = {good.size(), goodOnes, good.size() - goodOnes, start, in, on, paper, bars,
            steering ? 1 : 0, past.size()};
        return in(what, 0, 9) ? all[what] : LOST - 2;
    }

    long mark(int x, int y, int dx, int dy) {
        if (!in(x, -1000, 1000) || !in(y, -1000, 1000) || !in(dx, -100, 100) || !in(dy, -100, 100)) {
            return OUTSIDE;
        }
        if (marks.size() == 8) {
            return FULL;
        }
        marks.add(new int[] {x, y, dx, dy});
        return marks.size();
    }

    long clear() {
        long were = marks.size();
        marks.clear();
        return were;
    }

    private BigInteger sum(int a, int b) {
        BigInteger s = BigInteger.ZERO;
        for (int[] k : marks) {
            long v = b < 0 ? k[a] : (long) k[a] * k[b];
            s = s.add(BigInteger.valueOf(v));
        }
        return s;
    }

    private BigInteger sum(int a) {
        return sum(a, -1);
    }

    private BigInteger lowerA() {
        BigInteger m = BigInteger.valueOf(marks.size());
        return m.multiply(sum(0, 0).add(sum(1, 1))).subtract(sum(0).pow(2)).subtract(sum(1).pow(2));
    }

    /** Upper and lower number in lowest terms. */
    private BigInteger[] fraction(int which) {
        BigInteger m = BigInteger.valueOf(marks.size());
        BigInteger a = lowerA();
        BigInteger s = m.multiply(sum(0, 2).add(sum(1, 3)))
            .subtract(sum(0).multiply(sum(2))).subtract(sum(1).multiply(sum(3)));
        BigInteger t = m.multiply(sum(0, 3).subtract(sum(1, 2)))
            .subtract(sum(0).multiply(sum(3))).add(sum(1).multiply(sum(2)));
        BigInteger upper = s;
        BigInteger lower = a;
        if (which == 1) {
            upper = t;
        }
        if (which == 2) {
            upper = sum(2).multiply(a).subtract(s.multiply(sum(0))).add(t.multiply(sum(1)));
            lower = a.multiply(m);
        }
        if (which == 3) {
            upper = sum(3).multiply(a).subtract(s.multiply(sum(1))).subtract(t.multiply(sum(0)));
            lower = a.multiply(m);
        }
        BigInteger g = upper.gcd(lower);
        return new BigInteger[] {upper.divide(g), lower.divide(g)};
    }

    long fit(int which, int part) {
        if (!in(which, 0, 3) || !in(part, 0, 1)) {
            return LOST - 2;
        }
        if (lowerA().signum() <= 0) {
            return LOST - 5;
        }
        return fraction(which)[part].longValueExact();
    }

    long off(int i, int way) {
        if (!in(i, 0, marks.size() - 1)) {
            return LOST - 1;
        }
        if (!in(way, 0, 1)) {
            return LOST - 2;
        }
        if (lowerA().signum() <= 0) {
            return LOST - 5;
        }
        BigInteger[] s = fraction(0);
        BigInteger[] t = fraction(1);
        BigInteger[] shift = fraction(2 + way);
        BigInteger x = BigInteger.valueOf(marks.get(i)[0]);
        BigInteger y = BigInteger.valueOf(marks.get(i)[1]);
        BigInteger seen = BigInteger.valueOf(marks.get(i)[2 + way]);
        BigInteger all = s[1].multiply(t[1]).multiply(shift[1]);
        BigInteger ofStretch = s[0].multiply(way == 0 ? x : y).multiply(t[1]).multiply(shift[1]);
        BigInteger ofTurn = t[0].multiply(way == 0 ? y.negate() : x).multiply(s[1]).multiply(shift[1]);
        BigInteger ofShift = shift[0].multiply(s[1]).multiply(t[1]);
        BigInteger rest = seen.multiply(all).subtract(ofStretch).subtract(ofTurn).subtract(ofShift);
        return rest.multiply(BigInteger.valueOf(1000)).divide(all).longValueExact();
    }

    long job(int colour, int paperOf) {
        if (!in(colour, 0, 3) || !in(paperOf, 0, 5)) {
            return OUTSIDE;
        }
        if (jobs.size() == 7) {
            return FULL;
        }
        jobs.add(new int[] {colour, paperOf});
        return jobs.size() - 1;
    }

    long forget() {
        long were = jobs.size();
        jobs.clear();
        return were;
    }

    long wash(int from, int to, int cost) {
        if (!in(from, 0, 3) || !in(to, 0, 3)) {
            return UNKNOWN;
        }
        if (!in(cost, 0, 100)) {
            return OUTSIDE;
        }
        if (from == to) {
            return NO;
        }
        long was = wash[from][to];
        wash[from][to] = cost;
        return was;
    }

    long order() {
        tryAllOrders();
        return leastCosts;
    }

    long orderAt(int i) {
        tryAllOrders();
        return in(i, 0, leastOrder.size() - 1) ? leastOrder.get(i) : NONE;
    }

    private void tryAllOrders() {
        leastOrder = null;
        tryFrom(new ArrayList<>());
    }

    private void tryFrom(List<Integer> order) {
        if (order.size() == jobs.size()) {
            int costs = costsOf(order);
            if (leastOrder == null || costs < leastCosts) {
                leastCosts = costs;
                leastOrder = new ArrayList<>(order);
            }
            return;
        }
        for (int j = 0; j < jobs.size(); j++) {
            if (!order.contains(j)) {
                order.add(j);
                tryFrom(order);
                order.remove(order.size() - 1);
            }
        }
    }

    private int costsOf(List<Integer> order) {
        int costs = 0;
        int[] last = {0, 0};
        for (int j : order) {
            int[] job = jobs.get(j);
            costs += wash[last[0]][job[0]] + (last[1] == job[1] ? 0 : 5);
            last = job;
        }
        return costs;
    }
}
