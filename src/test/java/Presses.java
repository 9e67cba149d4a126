/** Presses in states that several tests start from. */
final class Presses {
    static final int FEED = 0, PASS = 1, DRIFT = 2, TAKE = 3, GAIN = 4, STEP = 5, TOLERANCE = 6, EVERY = 7, HOLD = 8;
    static final int KEY = 0, COVER = 1, TARGET = 2, DENSITY = 3;
    static final int SHEETS = 0, GOOD = 1, WASTE = 2, START = 3, IN = 4, ON = 5, PAPER = 6, BARS = 7;
    static final int STEERING = 8, PAST_JOBS = 9;

    private Presses() {
    }

    /** Without drift, and nothing goes onto the paper: what comes can be followed by hand. */
    static InkPress plain(int zones, int rollers) {
        InkPress x = new InkPress();
        x.press(zones, rollers);
        x.rule(DRIFT, 0);
        for (int z = 0; z < zones; z++) {
            x.set(z, COVER, 0);
        }
        return x;
    }

    /** Two zones with KEY 50: 1000 come, 900 go on, 9 go onto the bar, so that DENSITY is 90 on the first SHEET. */
    static InkPress ofDensity90() {
        InkPress x = plain(2, 2);
        x.rule(FEED, 20);
        x.rule(PASS, 90);
        x.set(0, KEY, 50);
        x.set(1, KEY, 50);
        return x;
    }

    /** The same, with STEERING behind each SHEET and a GAIN that makes 1 of the KEY of 10 of the DENSITY. */
    static InkPress steeredOfDensity90() {
        InkPress x = ofDensity90();
        x.rule(EVERY, 1);
        x.rule(GAIN, 100);
        x.rule(STEP, 100);
        x.steer(true);
        return x;
    }

    /** DENSITY stays 0 and each steering makes KEY 0 more by just 1, so that it counts them. */
    static InkPress countingSteerings(int every) {
        InkPress x = plain(2, 2);
        x.rule(FEED, 1);
        x.rule(PASS, 1);
        x.rule(GAIN, 1);
        x.rule(EVERY, every);
        x.set(0, TARGET, 1000);
        x.set(1, TARGET, 0);
        x.steer(true);
        return x;
    }

    /** KEYS are 0 and TARGETS 100, so that this TOLERANCE makes SHEETS GOOD. */
    static void printGood(InkPress x, int n) {
        x.rule(TOLERANCE, 100);
        x.print(n);
    }

    static void printWaste(InkPress x, int n) {
        x.rule(TOLERANCE, 99);
        x.print(n);
    }

    /** Five ZONES with ink everywhere, STEERING on, SHEETS of both kinds, PAST JOBS, MARKS, JOBS, other WASHES. */
    static InkPress used() {
        InkPress x = new InkPress();
        x.press(5, 4);
        x.rule(FEED, 13);
        x.rule(TOLERANCE, 150);
        x.rule(EVERY, 3);
        for (int z = 0; z < 5; z++) {
            x.set(z, KEY, 20 + 11 * z);
            x.set(z, COVER, 15 * z + 3);
            x.set(z, TARGET, 90 + 20 * z);
        }
        x.steer(true);
        x.print(31);
        x.past(10, 22);
        x.past(70, 81);
        x.past(35, 40);
        x.mark(-300, 200, 7, -3);
        x.mark(410, 190, -2, 9);
        x.mark(55, -620, 4, 4);
        x.wash(0, 2, 17);
        x.wash(3, 1, 4);
        x.job(3, 2);
        x.job(1, 0);
        x.job(2, 2);
        x.job(1, 5);
        return x;
    }

    /** The same, with as many SHEETS, PAST JOBS, MARKS and JOBS as there may be. */
    static InkPress full() {
        InkPress x = used();
        for (int i = 0; i < 4; i++) {
            x.print(200);
        }
        x.print(169);
        for (int i = 3; i < 30; i++) {
            x.past(3 * i, 90 - 2 * i);
        }
        for (int i = 3; i < 8; i++) {
            x.mark(100 * i, 37 * i, i, -i);
        }
        for (int i = 4; i < 7; i++) {
            x.job(i % 4, i % 6);
        }
        return x;
    }
}
