/** Promises 1 to 7: a new object, press, rule, set, zone, ink, print. */
public final class PressTest {
    private static final int[] LEAST = {1, 1, 0, 1, 1, 1, 0, 1, 1};
    private static final int[] MOST = {20, 90, 40, 90, 200, 100, 500, 50, 20};
    private static final int[] FIRST = {10, 50, 10, 40, 50, 10, 10, 5, 2};

    public static void main(String[] args) {
        newObject();
        pressAnswers();
        pressStartsAnew();
        pressKeepsTheRest();
        pressRefusedChangesNothing();
        ruleRanges();
        setRanges();
        zoneAnswers();
        inkAnswers();
        printByHand();
        printPassesThroughInOneSheet();
        printDriftsFromBefore();
        printDriftsWhole();
        printOnTheLargestPress();
        printTakesByCover();
        printKeepsLargeNumbers();
        printRefused();
        Due.end();
    }

    private static void newObject() {
        InkPress x = new InkPress();
        for (int what = 0; what <= 9; what++) {
            Due.is("new: told " + what, x.told(what), what == 3 ? InkPress.NONE : 0);
        }
        for (int z = 0; z < 4; z++) {
            Due.is("new: key", x.zone(z, 0), 0);
            Due.is("new: cover", x.zone(z, 1), 20);
            Due.is("new: target", x.zone(z, 2), 100);
            Due.is("new: density", x.zone(z, 3), 0);
            for (int r = 0; r < 3; r++) {
                Due.is("new: ink", x.ink(r, z), 0);
            }
        }
        Due.is("new: zone 4", x.zone(4, 0), InkPress.UNKNOWN);
        Due.is("new: roller 3", x.ink(3, 0), InkPress.UNKNOWN);
        for (int which = 0; which <= 8; which++) {
            Due.is("new: rule " + which, x.rule(which, FIRST[which]), FIRST[which]);
        }
        Due.is("new: sheet 1", x.good(1), InkPress.UNKNOWN);
        Due.is("new: preset", x.preset(20), InkPress.STATE);
        Due.is("new: clear", x.clear(), 0);
        Due.is("new: order", x.order(), 0);
        Due.is("new: forget", x.forget(), 0);
        for (int from = 0; from < 4; from++) {
            for (int to = 0; to < 4; to++) {
                Due.is("new: wash", x.wash(from, to, 3), from == to ? InkPress.NO : 10);
            }
        }
    }

    private static void pressAnswers() {
        InkPress x = new InkPress();
        for (int n = -1; n <= 10; n++) {
            for (int r = -1; r <= 7; r++) {
                boolean fits = n >= 2 && n <= 8 && r >= 2 && r <= 5;
                Due.is("press " + n + " " + r, x.press(n, r), fits ? n * r : InkPress.OUTSIDE);
            }
        }
        Due.is("press huge", x.press(Integer.MAX_VALUE, 2), InkPress.OUTSIDE);
        Due.is("press huge", x.press(2, Integer.MIN_VALUE), InkPress.OUTSIDE);
        x.press(8, 5);
        Due.is("zone 7 is there", x.zone(7, 1), 20);
        Due.is("zone 8 is not", x.zone(8, 1), InkPress.UNKNOWN);
        Due.is("ink 4 7 is there", x.ink(4, 7), 0);
        Due.is("ink 5 7 is not", x.ink(5, 7), InkPress.UNKNOWN);
        Due.is("ink 4 8 is not", x.ink(4, 8), InkPress.UNKNOWN);
    }

    private static InkPress used() {
        InkPress x = new InkPress();
        x.press(3, 2);
        for (int z = 0; z < 3; z++) {
            x.set(z, 0, 50);
            x.set(z, 1, 90);
            x.set(z, 2, 300);
        }
        x.rule(6, 500);
        x.steer(true);
        x.print(4);
        return x;
    }

    private static void pressStartsAnew() {
        InkPress x = used();
        Due.is("used: start", x.told(3), 2);
        Due.is("press", x.press(3, 2), 6);
        for (int what = 0; what <= 8; what++) {
            Due.is("press: told " + what, x.told(what), what == 3 ? InkPress.NONE : 0);
        }
        for (int z = 0; z < 3; z++) {
            Due.is("press: key", x.zone(z, 0), 0);
            Due.is("press: cover", x.zone(z, 1), 20);
            Due.is("press: target", x.zone(z, 2), 100);
            Due.is("press: density", x.zone(z, 3), 0);
            Due.is("press: ink 0", x.ink(0, z), 0);
            Due.is("press: ink 1", x.ink(1, z), 0);
        }
        Due.is("press: sheet 1", x.density(1, 0), InkPress.UNKNOWN);
        Due.is("press: sheet 1", x.good(1), InkPress.UNKNOWN);

        // One good sheet ahead of the new press must not count for its start.
        x.print(1);
        x.press(3, 2);
        x.print(1);
        Due.is("press: good one", x.told(1), 1);
        Due.is("press: start", x.told(3), InkPress.NONE);
        x.print(1);
        Due.is("press: start", x.told(3), 2);
    }

    private static void pressKeepsTheRest() {
        InkPress x = new InkPress();
        x.rule(0, 20);
        x.rule(8, 7);
        x.past(10, 30);
        x.mark(0, 0, 1, 2);
        x.mark(10, 0, 2, 2);
        x.job(0, 0);
        x.job(2, 0);
        x.wash(0, 2, 33);
        x.press(5, 5);
        Due.is("rule stays", x.rule(0, 1), 20);
        Due.is("rule stays", x.rule(8, 1), 7);
        Due.is("past stays", x.told(9), 1);
        Due.is("past stays", x.preset(99), 30);
        Due.is("marks stay", x.fit(0, 1), 10);
        Due.is("wash stays", x.order(), 33);
        Due.is("marks stay", x.clear(), 2);
        Due.is("jobs stay", x.forget(), 2);
    }

    private static void pressRefusedChangesNothing() {
        InkPress x = used();
        int ink = x.ink(1, 1);
        Due.is("refused", x.press(1, 3), InkPress.OUTSIDE);
        Due.is("refused", x.press(4, 6), InkPress.OUTSIDE);
        Due.is("ink stays", x.ink(1, 1), ink);
        Due.is("zones stay", x.zone(3, 0), InkPress.UNKNOWN);
        Due.is("rollers stay", x.ink(2, 0), InkPress.UNKNOWN);
        Due.is("sheets stay", x.told(0), 4);
        Due.is("steering stays", x.told(8), 1);
        Due.is("cover stays", x.zone(1, 1), 90);
    }

    private static void ruleRanges() {
        InkPress x = new InkPress();
        int unknown = InkPress.LOST + InkPress.UNKNOWN;
        int outside = InkPress.LOST + InkPress.OUTSIDE;
        for (int which = 0; which <= 8; which++) {
            String name = "rule " + which;
            Due.is(name, x.rule(which, LEAST[which]), FIRST[which]);
            Due.is(name, x.rule(which, MOST[which]), LEAST[which]);
            Due.is(name, x.rule(which, MOST[which] + 1), outside);
            Due.is(name, x.rule(which, LEAST[which] - 1), outside);
            Due.is(name, x.rule(which, Integer.MIN_VALUE), outside);
            Due.is(name, x.rule(which, Integer.MAX_VALUE), outside);
            Due.is(name, x.rule(which, FIRST[which]), MOST[which]);
        }
        Due.is("rule -1", x.rule(-1, 1), unknown);
        Due.is("rule 9", x.rule(9, 1), unknown);
        Due.is("rule 9, unknown first", x.rule(9, -1), unknown);
        Due.is("rule huge", x.rule(Integer.MAX_VALUE, 1), unknown);
        Due.is("rule huge", x.rule(Integer.MIN_VALUE, 1), unknown);
    }

    private static void setRanges() {
        InkPress x = new InkPress();
        int[] most = {100, 100, 1000};
        int[] first = {0, 20, 100};
        for (int what = 0; what <= 2; what++) {
            for (int z = 0; z < 4; z++) {
                String name = "set " + z + " " + what;
                Due.is(name, x.set(z, what, most[what]), first[what]);
                Due.is(name, x.set(z, what, most[what] + 1), InkPress.OUTSIDE);
                Due.is(name, x.set(z, what, -1), InkPress.OUTSIDE);
                Due.is(name, x.set(z, what, 0), most[what]);
                Due.is(name, x.set(z, what, 7 + z), 0);
            }
        }
        for (int what = 0; what <= 2; what++) {
            for (int z = 0; z < 4; z++) {
                Due.is("set is held", x.zone(z, what), 7 + z);
            }
        }
        Due.is("set what 3", x.set(0, 3, 1), InkPress.OUTSIDE);
        Due.is("set what -1", x.set(0, -1, 1), InkPress.OUTSIDE);
        Due.is("set what huge", x.set(0, Integer.MAX_VALUE, 1), InkPress.OUTSIDE);
        Due.is("set zone 4", x.set(4, 0, 1), InkPress.UNKNOWN);
        Due.is("set zone -1", x.set(-1, 0, 1), InkPress.UNKNOWN);
        Due.is("set zone huge", x.set(Integer.MIN_VALUE, 0, 1), InkPress.UNKNOWN);
        Due.is("set, unknown first", x.set(4, 9, -1), InkPress.UNKNOWN);
    }

    private static void zoneAnswers() {
        InkPress x = new InkPress();
        x.set(2, 0, 100);
        x.print(9);
        Due.is("zone: latest", x.zone(2, 3), x.density(9, 2));
        Due.holds("zone: inked", x.zone(2, 3) > 0);
        Due.is("zone what 4", x.zone(2, 4), InkPress.OUTSIDE);
        Due.is("zone what -1", x.zone(2, -1), InkPress.OUTSIDE);
        Due.is("zone what huge", x.zone(2, Integer.MAX_VALUE), InkPress.OUTSIDE);
        Due.is("zone 4", x.zone(4, 0), InkPress.UNKNOWN);
        Due.is("zone -1", x.zone(-1, 3), InkPress.UNKNOWN);
        Due.is("zone, unknown first", x.zone(4, 4), InkPress.UNKNOWN);
    }

    private static void inkAnswers() {
        InkPress x = new InkPress();
        Due.is("ink -1 0", x.ink(-1, 0), InkPress.UNKNOWN);
        Due.is("ink 0 -1", x.ink(0, -1), InkPress.UNKNOWN);
        Due.is("ink 3 0", x.ink(3, 0), InkPress.UNKNOWN);
        Due.is("ink 0 4", x.ink(0, 4), InkPress.UNKNOWN);
        Due.is("ink huge", x.ink(Integer.MAX_VALUE, Integer.MAX_VALUE), InkPress.UNKNOWN);
        Due.is("ink huge", x.ink(Integer.MIN_VALUE, Integer.MIN_VALUE), InkPress.UNKNOWN);
    }

    private static void printByHand() {
        InkPress x = new InkPress();
        x.press(2, 2);
        x.rule(2, 0);
        x.set(1, 0, 10);
        Due.is("print 1", x.print(1), 1);
        // 100 come, 50 go on; 4 of these go onto the paper, none onto the bar.
        Due.is("ink 0 1", x.ink(0, 1), 50);
        Due.is("ink 1 1", x.ink(1, 1), 46);
        Due.is("density", x.zone(1, 3), 0);
        Due.is("print 1", x.print(1), 2);
        // 150, of which 75 go on; of 121 then 9 go onto the paper, 1 onto the bar.
        Due.is("ink 0 1", x.ink(0, 1), 75);
        Due.is("ink 1 1", x.ink(1, 1), 111);
        Due.is("density", x.zone(1, 3), 10);
        Due.is("no drift", x.ink(0, 0) + x.ink(1, 0), 0);
        Due.is("in", x.told(4), 200);
        Due.is("on", x.told(5), 186);
        Due.is("paper", x.told(6), 13);
        Due.is("bars", x.told(7), 1);
    }

    private static void printPassesThroughInOneSheet() {
        InkPress x = new InkPress();
        x.press(2, 5);
        x.rule(0, 20);
        x.rule(1, 90);
        x.rule(2, 0);
        x.set(0, 0, 50);
        x.set(0, 1, 0);
        x.print(1);
        // 1000: 900 go on, then 810, 729, 656.1 cut; and 6 of 656 go onto the bar.
        Due.is("ink 0 0", x.ink(0, 0), 100);
        Due.is("ink 1 0", x.ink(1, 0), 90);
        Due.is("ink 2 0", x.ink(2, 0), 81);
        Due.is("ink 3 0", x.ink(3, 0), 73);
        Due.is("ink 4 0", x.ink(4, 0), 650);
        Due.is("density", x.density(1, 0), 60);
    }

    private static void printDriftsFromBefore() {
        InkPress x = new InkPress();
        x.press(3, 2);
        x.rule(0, 10);
        x.rule(1, 1);
        x.rule(2, 40);
        x.set(0, 0, 10);
        x.set(1, 0, 60);
        x.set(2, 0, 30);
        x.print(1);
        // Left on roller 0: 99, 594, 297; a fifth of each, cut, goes to either side: 19, 118, 59.
        Due.is("ink 0 0", x.ink(0, 0), 99 - 19 + 118);
        Due.is("ink 0 1", x.ink(0, 1), 594 - 118 - 118 + 19 + 59);
        Due.is("ink 0 2", x.ink(0, 2), 297 - 59 + 118);
        // Roller 1 has 1, 6, 3, of which 0, 1, 0 go.
        Due.is("ink 1 0", x.ink(1, 0), 2);
        Due.is("ink 1 1", x.ink(1, 1), 4);
        Due.is("ink 1 2", x.ink(1, 2), 4);
    }

    private static void printDriftsWhole() {
        InkPress x = new InkPress();
        x.press(2, 2);
        x.rule(1, 50);
        x.rule(2, 10);
        x.set(0, 0, 40);
        x.set(1, 0, 80);
        x.print(1);
        // 200 and 400 are left on roller 0, of which 10 and 20 go without a rest.
        Due.is("ink 0 0", x.ink(0, 0), 210);
        Due.is("ink 0 1", x.ink(0, 1), 390);
    }

    private static void printOnTheLargestPress() {
        InkPress x = new InkPress();
        x.press(8, 5);
        x.rule(2, 40);
        for (int z = 0; z < 8; z++) {
            x.set(z, 0, 100);
        }
        x.print(1);
        // Alike in all zones: what drifts away comes back from beside.
        int[] due = {500, 250, 125, 63, 62 - 4};
        for (int r = 0; r < 5; r++) {
            for (int z = 0; z < 8; z++) {
                Due.is("ink " + r + " " + z, x.ink(r, z), due[r]);
            }
        }
        Due.is("on", x.told(5), 8 * (1000 - 4));
    }

    private static void printTakesByCover() {
        InkPress x = new InkPress();
        x.press(4, 2);
        x.rule(0, 19);
        x.rule(1, 90);
        x.rule(2, 0);
        x.rule(3, 90);
        int[] covers = {0, 1, 50, 100};
        int[] paper = {0, 9, 461, 923};
        for (int z = 0; z < 4; z++) {
            x.set(z, 0, 60);
            x.set(z, 1, covers[z]);
        }
        x.print(1);
        // 1140 come, 1026 go on; the bar takes its part of all 1026, not of what the paper leaves.
        for (int z = 0; z < 4; z++) {
            Due.is("left by cover " + covers[z], x.ink(1, z), 1026 - paper[z] - 10);
            Due.is("density", x.zone(z, 3), 100);
        }
        Due.is("paper", x.told(6), 0 + 9 + 461 + 923);
        Due.is("bars", x.told(7), 40);
    }

    private static void printKeepsLargeNumbers() {
        InkPress x = new InkPress();
        x.press(2, 2);
        x.rule(0, 20);
        x.rule(1, 1);
        x.rule(3, 90);
        for (int z = 0; z < 2; z++) {
            x.set(z, 0, 100);
            x.set(z, 1, 0);
        }
        x.print(200);
        x.print(200);
        x.rule(1, 90);
        x.rule(2, 0);
        x.set(0, 1, 100);
        long ahead = x.ink(1, 0) + (x.ink(0, 0) + 2000L) * 90 / 100;
        Due.holds("beyond int", ahead * 9000 > Integer.MAX_VALUE);
        x.print(1);
        Due.is("taken by long", x.ink(1, 0), ahead - ahead * 9000 / 10000 - ahead / 100);
        Due.is("density", x.zone(0, 3), ahead / 100 * 10);
        Due.is("none lost", x.told(5) + x.told(6) + x.told(7), x.told(4));
        Due.is("in", x.told(4), 401 * 4000);
    }

    private static void printRefused() {
        InkPress x = new InkPress();
        Due.is("print 0", x.print(0), InkPress.OUTSIDE);
        Due.is("print -1", x.print(-1), InkPress.OUTSIDE);
        Due.is("print 201", x.print(201), InkPress.OUTSIDE);
        Due.is("print huge", x.print(Integer.MAX_VALUE), InkPress.OUTSIDE);
        Due.is("print huge", x.print(Integer.MIN_VALUE), InkPress.OUTSIDE);
        Due.is("none yet", x.told(0), 0);
        x.set(0, 0, 1);
        for (int i = 1; i <= 4; i++) {
            Due.is("print 200", x.print(200), 200 * i);
        }
        Due.is("print 199", x.print(199), 999);
        Due.is("print 2", x.print(2), InkPress.STATE);
        Due.is("nothing printed", x.told(0), 999);
        Due.is("nothing fed", x.told(4), 9990);
        Due.is("print 1", x.print(1), 1000);
        Due.is("print 1", x.print(1), InkPress.STATE);
        Due.is("print 201, outside first", x.print(201), InkPress.OUTSIDE);
        x.press(2, 2);
        Due.is("print anew", x.print(200), 200);
    }
}
