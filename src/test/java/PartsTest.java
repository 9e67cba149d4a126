import java.util.List;

/** Each call changes what the document says and nothing else: all that can be seen is held to an untouched twin. */
public final class PartsTest {
    private static final String[] NOTHING = {};
    // What comes next on a press that has other keys, ink or rules; see Seen.
    private static final String KEYS_TO_COME = "key", IN_TO_COME = "in";
    private static final String[] MARKS = {"fit", "off", "mark", "clear"};
    private static final String[] JOBS = {"order", "orderAt", "job", "forget"};

    private interface Call {
        void on(InkPress x);
    }

    public static void main(String[] args) {
        whatWasSetStays();
        askingChangesNothing();
        pressChangesThePress();
        ruleChangesOneRule();
        setChangesOneZone();
        printChangesThePress();
        printWithoutSteeringLeavesKeys();
        steerChangesSteering();
        pastChangesPastJobs();
        presetsChangeKeys();
        markChangesMarks();
        clearChangesMarks();
        jobChangesJobs();
        forgetChangesJobs();
        washChangesOneWash();
        theSameAgainChangesNothing();
        Due.end();
    }

    /** Every answer behind the call that is not the twin's begins with one of these, and each of these is there. */
    private static void changes(String name, Call call, String... own) {
        InkPress x = Presses.used();
        call.on(x);
        List<String> got = Seen.of(x);
        List<String> was = Seen.of(Presses.used());
        boolean[] seen = new boolean[own.length];
        Due.is(name + ", answers seen", got.size(), was.size());
        for (int i = 0; i < Math.min(got.size(), was.size()); i++) {
            if (!got.get(i).equals(was.get(i))) {
                int found = find(was.get(i), own);
                Due.holds(name + " leaves " + was.get(i) + ", now " + got.get(i), found >= 0);
                if (found >= 0) {
                    seen[found] = true;
                }
            }
        }
        for (int k = 0; k < own.length; k++) {
            Due.holds(name + " changes " + own[k], seen[k]);
        }
    }

    private static int find(String line, String[] own) {
        for (int k = 0; k < own.length; k++) {
            if (line.startsWith(own[k] + " ")) {
                return k;
            }
        }
        return -1;
    }

    /** The twin is made by the same calls, so that what one of these does again and again shows here alone. */
    private static void whatWasSetStays() {
        Due.sentence("what was set stays as it was set");
        InkPress x = Presses.used();
        int[] rules = {13, 50, 10, 40, 50, 10, 150, 3, 2};
        for (int which = 0; which <= 8; which++) {
            Due.is("rule " + which, x.rule(which, rules[which]), rules[which]);
        }
        for (int z = 0; z < 5; z++) {
            Due.is("cover " + z, x.zone(z, 1), 15 * z + 3);
            Due.is("target " + z, x.zone(z, 2), 90 + 20 * z);
        }
        int[] washes = {0, 10, 17, 10, 10, 0, 10, 10, 10, 10, 0, 10, 10, 4, 10, 0};
        for (int i = 0; i < washes.length; i++) {
            if (i / 4 != i % 4) {
                Due.is("wash " + i / 4 + " " + i % 4, x.wash(i / 4, i % 4, washes[i]), washes[i]);
            }
        }
        Due.is("sheets", x.told(0), 31);
        Due.is("steering", x.told(8), 1);
        Due.is("past jobs", x.told(9), 3);
        Due.is("marks", x.clear(), 3);
        Due.is("jobs", x.forget(), 4);
    }

    private static void askingChangesNothing() {
        Due.sentence("calls that only tell change nothing");
        changes("zone", x -> x.zone(2, 3), NOTHING);
        changes("ink", x -> x.ink(3, 4), NOTHING);
        changes("good", x -> x.good(31), NOTHING);
        changes("density", x -> x.density(31, 4), NOTHING);
        changes("preset", x -> x.preset(3), NOTHING);
        for (int i = 0; i <= 9; i++) {
            int what = i;
            changes("told " + what, x -> x.told(what), NOTHING);
        }
        changes("fit", x -> x.fit(2, 0), NOTHING);
        changes("off", x -> x.off(2, 1), NOTHING);
        changes("order", x -> x.order(), NOTHING);
        changes("orderAt", x -> x.orderAt(3), NOTHING);
    }

    private static void pressChangesThePress() {
        Due.sentence("press: RULES, PAST JOBS, MARKS, JOBS stay");
        changes("press", x -> x.press(5, 4), "told 0", "told 1", "told 2", "told 3", "told 4", "told 5", "told 6",
            "told 7", "told 8", "zone", "ink", "good", "density", "print", "start", KEYS_TO_COME, IN_TO_COME);
    }

    private static void ruleChangesOneRule() {
        Due.sentence("rule changes one RULE, and no SHEET that was printed");
        changes("rule 0", x -> x.rule(0, 20), "rule 0", KEYS_TO_COME, IN_TO_COME);
        changes("rule 1", x -> x.rule(1, 90), "rule 1", KEYS_TO_COME, IN_TO_COME);
        changes("rule 2", x -> x.rule(2, 40), "rule 2", KEYS_TO_COME, IN_TO_COME);
        changes("rule 3", x -> x.rule(3, 90), "rule 3", KEYS_TO_COME, IN_TO_COME);
        changes("rule 4", x -> x.rule(4, 200), "rule 4", KEYS_TO_COME, IN_TO_COME);
        changes("rule 5", x -> x.rule(5, 1), "rule 5", KEYS_TO_COME, IN_TO_COME);
        changes("rule 6", x -> x.rule(6, 0), "rule 6");
        changes("rule 7", x -> x.rule(7, 1), "rule 7", KEYS_TO_COME, IN_TO_COME);
        changes("rule 8", x -> x.rule(8, 20), "rule 8");
    }

    private static void setChangesOneZone() {
        Due.sentence("set changes one number of one ZONE, and no SHEET that was printed");
        changes("set 1 0", x -> x.set(1, 0, 99), "zone 1 0", KEYS_TO_COME, IN_TO_COME);
        changes("set 2 1", x -> x.set(2, 1, 100), "zone 2 1", KEYS_TO_COME, IN_TO_COME);
        changes("set 3 2", x -> x.set(3, 2, 900), "zone 3 2", KEYS_TO_COME, IN_TO_COME);
    }

    private static void printChangesThePress() {
        Due.sentence("print changes SHEETS, ink, and with STEERING the KEYS");
        changes("print", x -> x.print(20), "told 0", "told 1", "told 4", "told 5", "told 6", "told 7",
            "zone 1 0", "zone 2 0", "zone 3 0", "zone 0 3", "zone 1 3", "zone 2 3", "zone 3 3", "zone 4 3",
            "ink", "good", "density", "print", KEYS_TO_COME, IN_TO_COME);
    }

    private static void printWithoutSteeringLeavesKeys() {
        Due.sentence("print without STEERING changes no KEY");
        InkPress x = Presses.used();
        int[] keys = new int[5];
        for (int z = 0; z < 5; z++) {
            keys[z] = x.zone(z, 0);
        }
        x.steer(false);
        x.print(200);
        for (int z = 0; z < 5; z++) {
            Due.is("key " + z, x.zone(z, 0), keys[z]);
        }
    }

    private static void steerChangesSteering() {
        Due.sentence("steer changes STEERING");
        changes("steer", x -> x.steer(false), "told 8", KEYS_TO_COME, IN_TO_COME);
    }

    private static void pastChangesPastJobs() {
        Due.sentence("past changes PAST JOBS, and no KEY");
        changes("past", x -> x.past(90, 3), "told 9", "preset", "past");
    }

    private static void presetsChangeKeys() {
        Due.sentence("presets change KEYS");
        changes("presets", x -> x.presets(), "zone 0 0", "zone 1 0", "zone 2 0", "zone 3 0", "zone 4 0",
            KEYS_TO_COME, IN_TO_COME);
    }

    private static void markChangesMarks() {
        Due.sentence("mark changes MARKS");
        changes("mark", x -> x.mark(900, 800, -70, 60), MARKS);
    }

    private static void clearChangesMarks() {
        Due.sentence("clear changes MARKS");
        changes("clear", x -> x.clear(), MARKS);
    }

    private static void jobChangesJobs() {
        Due.sentence("job changes JOBS");
        changes("job", x -> x.job(0, 3), JOBS);
    }

    private static void forgetChangesJobs() {
        Due.sentence("forget changes JOBS, and no WASH");
        changes("forget", x -> x.forget(), JOBS);
    }

    private static void washChangesOneWash() {
        Due.sentence("wash changes one WASH, and THE ORDER by it");
        changes("wash 0 1", x -> x.wash(0, 1, 99), "wash 0 1", "order", "orderAt");
        changes("wash 1 0", x -> x.wash(1, 0, 99), "wash 1 0");
    }

    private static void theSameAgainChangesNothing() {
        Due.sentence("what is set to what it was changes nothing");
        for (int i = 0; i <= 8; i++) {
            int which = i;
            changes("rule " + which, x -> x.rule(which, x.rule(which, 1)), NOTHING);
        }
        for (int i = 0; i <= 2; i++) {
            int what = i;
            changes("set 4 " + what, x -> x.set(4, what, x.zone(4, what)), NOTHING);
        }
        changes("steer", x -> x.steer(true), NOTHING);
        changes("steer off and on", x -> {
            x.steer(false);
            x.steer(true);
        }, NOTHING);
        changes("wash 2 3", x -> x.wash(2, 3, 10), NOTHING);
    }
}
