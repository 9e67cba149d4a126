import java.util.ArrayList;
import java.util.List;

/** What the part "Terms" says of all calls: refusals, which comes first, that they change nothing; any int. */
public final class TermsEdgesTest {
    private static final int UNKNOWN = InkPress.UNKNOWN, OUTSIDE = InkPress.OUTSIDE, STATE = InkPress.STATE;
    private static final int FULL = InkPress.FULL, NO = InkPress.NO, NONE = InkPress.NONE, LOST = InkPress.LOST;
    // Beyond every range, some of them such that an index made of them wraps around into a row.
    private static final int[] WILD = {
        Integer.MIN_VALUE, Integer.MIN_VALUE + 1, Integer.MIN_VALUE + 8, -(1 << 29), -(1 << 29) + 2, -65536, -1002,
        1002, 65536, 1 << 28, 1 << 29, (1 << 29) + 1, 1 << 30, Integer.MAX_VALUE - 1, Integer.MAX_VALUE};

    private interface Call {
        long on(InkPress x);
    }

    private static final class Refused {
        private final String name;
        private final Call call;
        private final long due;

        Refused(String name, Call call, long due) {
            this.name = name;
            this.call = call;
            this.due = due;
        }
    }

    public static void main(String[] args) {
        theSameSeenTwice();
        refusedOfNew();
        refusedOfUsed();
        refusedOfOneMark();
        refusedOfFull();
        anyIntOfNew();
        anyIntOfUsed();
        anyIntOfFull();
        the512thCall();
        behindThe512thCall();
        Due.end();
    }

    private static void theSameSeenTwice() {
        Due.sentence("the same calls always give the same answers");
        Due.holds("used", Seen.of(Presses.used()).equals(Seen.of(Presses.used())));
        Due.holds("full", Seen.of(Presses.full()).equals(Seen.of(Presses.full())));
        Due.holds("a used press is not a full one", !Seen.of(Presses.used()).equals(Seen.of(Presses.full())));
    }

    private static void refusedOfNew() {
        Due.sentence("refused calls change nothing, on a new object");
        List<Refused> all = refusedByRange();
        all.add(new Refused("preset", x -> x.preset(50), STATE));
        all.add(new Refused("presets", x -> x.presets(), STATE));
        all.add(new Refused("good 1", x -> x.good(1), UNKNOWN));
        all.add(new Refused("density 1 0", x -> x.density(1, 0), UNKNOWN));
        all.add(new Refused("fit 0 0", x -> x.fit(0, 0), LOST - 5));
        all.add(new Refused("off 0 0", x -> x.off(0, 0), LOST - 1));
        all.add(new Refused("orderAt 0", x -> x.orderAt(0), NONE));
        for (Refused one : all) {
            changesNothing(one, new InkPress(), new InkPress());
        }
    }

    private static void refusedOfUsed() {
        Due.sentence("refused calls change nothing, on a press in use");
        List<Refused> all = refusedByRange();
        all.add(new Refused("good 32", x -> x.good(32), UNKNOWN));
        all.add(new Refused("density 32 0", x -> x.density(32, 0), UNKNOWN));
        all.add(new Refused("off 3 0", x -> x.off(3, 0), LOST - 1));
        all.add(new Refused("off 0 2", x -> x.off(0, 2), LOST - 2));
        all.add(new Refused("orderAt 4", x -> x.orderAt(4), NONE));
        for (Refused one : all) {
            changesNothing(one, Presses.used(), Presses.used());
        }
    }

    private static void refusedOfOneMark() {
        Due.sentence("refused calls change nothing, with one MARK");
        List<Refused> all = new ArrayList<>();
        all.add(new Refused("fit 2 1", x -> x.fit(2, 1), LOST - 5));
        all.add(new Refused("off 0 1", x -> x.off(0, 1), LOST - 5));
        all.add(new Refused("off 0 2", x -> x.off(0, 2), LOST - 2));
        all.add(new Refused("off 1 0", x -> x.off(1, 0), LOST - 1));
        for (Refused one : all) {
            changesNothing(one, withOneMark(), withOneMark());
        }
    }

    private static InkPress withOneMark() {
        InkPress x = new InkPress();
        x.mark(7, -8, 9, 10);
        return x;
    }

    private static void refusedOfFull() {
        Due.sentence("refused calls change nothing, where all is full");
        List<Refused> all = refusedByRange();
        all.add(new Refused("print 1", x -> x.print(1), STATE));
        all.add(new Refused("print 200", x -> x.print(200), STATE));
        all.add(new Refused("past 50 50", x -> x.past(50, 50), FULL));
        all.add(new Refused("mark 1 2 3 4", x -> x.mark(1, 2, 3, 4), FULL));
        all.add(new Refused("job 1 1", x -> x.job(1, 1), FULL));
        for (Refused one : all) {
            changesNothing(one, Presses.full(), Presses.full());
        }
    }

    private static void changesNothing(Refused one, InkPress x, InkPress twin) {
        Due.is(one.name, one.call.on(x), one.due);
        List<String> got = Seen.of(x);
        List<String> want = Seen.of(twin);
        Due.is(one.name + ", answers seen behind it", got.size(), want.size());
        for (int i = 0; i < Math.min(got.size(), want.size()); i++) {
            Due.holds(one.name + ", then " + got.get(i) + " as " + want.get(i), got.get(i).equals(want.get(i)));
        }
    }

    /** What is refused in any state, of several refusals the first that fits. */
    private static List<Refused> refusedByRange() {
        List<Refused> all = new ArrayList<>();
        ofThePress(all);
        ofSteering(all);
        ofMarks(all);
        ofJobs(all);
        return all;
    }

    private static void ofThePress(List<Refused> all) {
        all.add(new Refused("press 1 3", x -> x.press(1, 3), OUTSIDE));
        all.add(new Refused("press 9 3", x -> x.press(9, 3), OUTSIDE));
        all.add(new Refused("press 4 1", x -> x.press(4, 1), OUTSIDE));
        all.add(new Refused("press 4 6", x -> x.press(4, 6), OUTSIDE));
        all.add(new Refused("rule 9 1", x -> x.rule(9, 1), LOST - 1));
        all.add(new Refused("rule -1 1", x -> x.rule(-1, 1), LOST - 1));
        all.add(new Refused("rule 9 -1", x -> x.rule(9, -1), LOST - 1));
        all.add(new Refused("rule 0 0", x -> x.rule(0, 0), LOST - 2));
        all.add(new Refused("rule 2 41", x -> x.rule(2, 41), LOST - 2));
        all.add(new Refused("rule 8 21", x -> x.rule(8, 21), LOST - 2));
        all.add(new Refused("set 8 0 1", x -> x.set(8, 0, 1), UNKNOWN));
        all.add(new Refused("set -1 0 1", x -> x.set(-1, 0, 1), UNKNOWN));
        all.add(new Refused("set 8 3 -1", x -> x.set(8, 3, -1), UNKNOWN));
        all.add(new Refused("set 0 3 1", x -> x.set(0, 3, 1), OUTSIDE));
        all.add(new Refused("set 0 -1 1", x -> x.set(0, -1, 1), OUTSIDE));
        all.add(new Refused("set 0 0 101", x -> x.set(0, 0, 101), OUTSIDE));
        all.add(new Refused("set 0 1 -1", x -> x.set(0, 1, -1), OUTSIDE));
        all.add(new Refused("set 0 2 1001", x -> x.set(0, 2, 1001), OUTSIDE));
        all.add(new Refused("zone 8 0", x -> x.zone(8, 0), UNKNOWN));
        all.add(new Refused("zone 8 4", x -> x.zone(8, 4), UNKNOWN));
        all.add(new Refused("zone 0 4", x -> x.zone(0, 4), OUTSIDE));
        all.add(new Refused("ink 5 0", x -> x.ink(5, 0), UNKNOWN));
        all.add(new Refused("ink 0 8", x -> x.ink(0, 8), UNKNOWN));
        all.add(new Refused("print 0", x -> x.print(0), OUTSIDE));
        all.add(new Refused("print -1", x -> x.print(-1), OUTSIDE));
        all.add(new Refused("print 201", x -> x.print(201), OUTSIDE));
    }

    private static void ofSteering(List<Refused> all) {
        all.add(new Refused("good 0", x -> x.good(0), UNKNOWN));
        all.add(new Refused("good 1001", x -> x.good(1001), UNKNOWN));
        all.add(new Refused("density 0 0", x -> x.density(0, 0), UNKNOWN));
        all.add(new Refused("density 1 8", x -> x.density(1, 8), UNKNOWN));
        all.add(new Refused("past 101 0", x -> x.past(101, 0), OUTSIDE));
        all.add(new Refused("past -1 0", x -> x.past(-1, 0), OUTSIDE));
        all.add(new Refused("past 0 101", x -> x.past(0, 101), OUTSIDE));
        all.add(new Refused("past 0 -1", x -> x.past(0, -1), OUTSIDE));
        all.add(new Refused("preset 101", x -> x.preset(101), OUTSIDE));
        all.add(new Refused("preset -1", x -> x.preset(-1), OUTSIDE));
        all.add(new Refused("told 10", x -> x.told(10), LOST - 2));
        all.add(new Refused("told -1", x -> x.told(-1), LOST - 2));
    }

    private static void ofMarks(List<Refused> all) {
        all.add(new Refused("mark 1001 0 0 0", x -> x.mark(1001, 0, 0, 0), OUTSIDE));
        all.add(new Refused("mark 0 -1001 0 0", x -> x.mark(0, -1001, 0, 0), OUTSIDE));
        all.add(new Refused("mark 0 0 101 0", x -> x.mark(0, 0, 101, 0), OUTSIDE));
        all.add(new Refused("mark 0 0 0 -101", x -> x.mark(0, 0, 0, -101), OUTSIDE));
        all.add(new Refused("fit 4 0", x -> x.fit(4, 0), LOST - 2));
        all.add(new Refused("fit 0 2", x -> x.fit(0, 2), LOST - 2));
        all.add(new Refused("off 8 0", x -> x.off(8, 0), LOST - 1));
        all.add(new Refused("off 8 2", x -> x.off(8, 2), LOST - 1));
    }

    private static void ofJobs(List<Refused> all) {
        all.add(new Refused("job 4 0", x -> x.job(4, 0), OUTSIDE));
        all.add(new Refused("job 0 6", x -> x.job(0, 6), OUTSIDE));
        all.add(new Refused("job -1 -1", x -> x.job(-1, -1), OUTSIDE));
        all.add(new Refused("wash 4 0 1", x -> x.wash(4, 0, 1), UNKNOWN));
        all.add(new Refused("wash 0 4 1", x -> x.wash(0, 4, 1), UNKNOWN));
        all.add(new Refused("wash 4 4 101", x -> x.wash(4, 4, 101), UNKNOWN));
        all.add(new Refused("wash 0 1 101", x -> x.wash(0, 1, 101), OUTSIDE));
        all.add(new Refused("wash 0 1 -1", x -> x.wash(0, 1, -1), OUTSIDE));
        all.add(new Refused("wash 1 1 101", x -> x.wash(1, 1, 101), OUTSIDE));
        all.add(new Refused("wash 1 1 1", x -> x.wash(1, 1, 1), NO));
        all.add(new Refused("orderAt -1", x -> x.orderAt(-1), NONE));
        all.add(new Refused("orderAt 7", x -> x.orderAt(7), NONE));
    }

    private static void anyIntOfNew() {
        Due.sentence("every number may be any int, on a new object");
        for (int w : WILD) {
            anyInt(new InkPress(), new InkPress(), w);
        }
    }

    private static void anyIntOfUsed() {
        Due.sentence("every number may be any int, on a press in use");
        for (int w : WILD) {
            anyInt(Presses.used(), Presses.used(), w);
        }
    }

    private static void anyIntOfFull() {
        Due.sentence("every number may be any int, where all is full");
        for (int w : WILD) {
            anyInt(Presses.full(), Presses.full(), w);
        }
    }

    private static void anyInt(InkPress x, InkPress twin, int w) {
        wildOfThePress(x, w);
        wildOfSteering(x, w);
        wildOfMarks(x, w);
        wildOfJobs(x, w);
        Due.holds("nothing changed by " + w, Seen.of(x).equals(Seen.of(twin)));
    }

    private static void wildOfThePress(InkPress x, int w) {
        Due.is("press w 3 by " + w, x.press(w, 3), OUTSIDE);
        Due.is("press 3 w by " + w, x.press(3, w), OUTSIDE);
        Due.is("press w w by " + w, x.press(w, w), OUTSIDE);
        Due.is("rule w 1 by " + w, x.rule(w, 1), LOST - 1);
        Due.is("rule w w by " + w, x.rule(w, w), LOST - 1);
        for (int which = 0; which <= 8; which++) {
            Due.is("rule " + which + " w by " + w, x.rule(which, w), LOST - 2);
        }
        for (int what = 0; what <= 2; what++) {
            Due.is("set w " + what + " 1 by " + w, x.set(w, what, 1), UNKNOWN);
            Due.is("set 1 " + what + " w by " + w, x.set(1, what, w), OUTSIDE);
        }
        Due.is("set 1 w 1 by " + w, x.set(1, w, 1), OUTSIDE);
        Due.is("set 1 w w by " + w, x.set(1, w, w), OUTSIDE);
        Due.is("set w w w by " + w, x.set(w, w, w), UNKNOWN);
        for (int what = 0; what <= 3; what++) {
            Due.is("zone w " + what + " by " + w, x.zone(w, what), UNKNOWN);
        }
        Due.is("zone 1 w by " + w, x.zone(1, w), OUTSIDE);
        Due.is("zone w w by " + w, x.zone(w, w), UNKNOWN);
        Due.is("ink w 1 by " + w, x.ink(w, 1), UNKNOWN);
        Due.is("ink 1 w by " + w, x.ink(1, w), UNKNOWN);
        Due.is("ink w w by " + w, x.ink(w, w), UNKNOWN);
        Due.is("print w by " + w, x.print(w), OUTSIDE);
    }

    private static void wildOfSteering(InkPress x, int w) {
        Due.is("good w by " + w, x.good(w), UNKNOWN);
        Due.is("density w 1 by " + w, x.density(w, 1), UNKNOWN);
        Due.is("density 1 w by " + w, x.density(1, w), UNKNOWN);
        Due.is("density w w by " + w, x.density(w, w), UNKNOWN);
        Due.is("past w 1 by " + w, x.past(w, 1), OUTSIDE);
        Due.is("past 1 w by " + w, x.past(1, w), OUTSIDE);
        Due.is("past w w by " + w, x.past(w, w), OUTSIDE);
        Due.is("preset w by " + w, x.preset(w), OUTSIDE);
        Due.is("told w by " + w, x.told(w), LOST - 2);
    }

    private static void wildOfMarks(InkPress x, int w) {
        Due.is("mark w 0 0 0 by " + w, x.mark(w, 0, 0, 0), OUTSIDE);
        Due.is("mark 0 w 0 0 by " + w, x.mark(0, w, 0, 0), OUTSIDE);
        Due.is("mark 0 0 w 0 by " + w, x.mark(0, 0, w, 0), OUTSIDE);
        Due.is("mark 0 0 0 w by " + w, x.mark(0, 0, 0, w), OUTSIDE);
        Due.is("mark w w w w by " + w, x.mark(w, w, w, w), OUTSIDE);
        Due.is("fit w 0 by " + w, x.fit(w, 0), LOST - 2);
        Due.is("fit 0 w by " + w, x.fit(0, w), LOST - 2);
        Due.is("fit w w by " + w, x.fit(w, w), LOST - 2);
        Due.is("off w 0 by " + w, x.off(w, 0), LOST - 1);
        Due.is("off w w by " + w, x.off(w, w), LOST - 1);
        boolean isThere = x.off(0, 0) != LOST - 1;
        Due.is("off 0 w by " + w, x.off(0, w), isThere ? LOST - 2 : LOST - 1);
    }

    private static void wildOfJobs(InkPress x, int w) {
        Due.is("job w 0 by " + w, x.job(w, 0), OUTSIDE);
        Due.is("job 0 w by " + w, x.job(0, w), OUTSIDE);
        Due.is("job w w by " + w, x.job(w, w), OUTSIDE);
        Due.is("wash w 0 1 by " + w, x.wash(w, 0, 1), UNKNOWN);
        Due.is("wash 0 w 1 by " + w, x.wash(0, w, 1), UNKNOWN);
        Due.is("wash 0 1 w by " + w, x.wash(0, 1, w), OUTSIDE);
        Due.is("wash 1 1 w by " + w, x.wash(1, 1, w), OUTSIDE);
        Due.is("wash w w w by " + w, x.wash(w, w, w), UNKNOWN);
        Due.is("orderAt w by " + w, x.orderAt(w), NONE);
    }

    private static void the512thCall() {
        Due.sentence("an object is used for 512 calls");
        InkPress x = new InkPress();
        for (int call = 1; call <= 128; call++) {
            Due.is("steer", x.steer(call % 2 == 1), (call - 1) % 2);
            Due.is("rule", x.rule(8, call % 20 + 1), call == 1 ? 2 : (call - 1) % 20 + 1);
            Due.is("set", x.set(3, 2, call), call == 1 ? 100 : call - 1);
            Due.is("print", x.print(call % 8 == 0 ? 1 : 7), 7 * call - 6 * (call / 8));
        }
    }

    private static void behindThe512thCall() {
        Due.sentence("no call throws, though what is answered behind the 512th is free");
        InkPress x = Presses.used();
        for (int round = 0; round < 60; round++) {
            int w = WILD[round % WILD.length];
            x.press(2 + round % 7, 2 + round % 4);
            x.set(1, 0, 100);
            x.set(w, w, w);
            x.past(round, round);
            x.presets();
            x.steer(true);
            x.print(200);
            x.density(w, w);
            x.off(w, w);
            Due.holds("all calls of round " + round + " end", !Seen.of(x).isEmpty());
        }
    }
}
