/** Promises 8 to 14: steer, good, density, past, preset, presets, told. */
public final class SteeringTest {
    public static void main(String[] args) {
        steerAnswers();
        steersOnlyWhenDue();
        steersByGain();
        steersEveryZone();
        steersWithinStep();
        steersDown();
        goodAsItWasThen();
        goodAtTheEdge();
        goodInEachZone();
        densityOfEachSheet();
        startByHold();
        startByHoldAsItIsThen();
        startNeedsSheetsInARow();
        pastAnswers();
        presetByLine();
        presetWithoutLine();
        presetsSetKeys();
        toldAnswers();
        Due.end();
    }

    private static void steerAnswers() {
        InkPress x = new InkPress();
        Due.is("steer", x.steer(false), 0);
        Due.is("steer", x.steer(true), 0);
        Due.is("told 8", x.told(8), 1);
        Due.is("steer", x.steer(true), 1);
        Due.is("steer", x.steer(false), 1);
        Due.is("told 8", x.told(8), 0);
        Due.is("steer", x.steer(false), 0);
    }

    private static void steersOnlyWhenDue() {
        InkPress x = new InkPress();
        x.print(5);
        Due.is("off at first", x.zone(0, 0), 0);
        x.steer(true);
        x.print(4);
        Due.is("sheet 9", x.zone(0, 0), 0);
        x.print(1);
        // (100 less 0) times 50 by 1000
        Due.is("sheet 10", x.zone(0, 0), 5);
        x.rule(7, 3);
        x.print(1);
        Due.is("sheet 11", x.zone(0, 0), 5);
        x.print(1);
        Due.is("sheet 12", x.zone(0, 0), 10);
        x.steer(false);
        x.print(3);
        Due.is("sheet 15, off", x.zone(0, 0), 10);
        // Sheets are counted anew on a new press.
        x.rule(7, 50);
        x.press(2, 2);
        x.steer(true);
        x.print(49);
        Due.is("sheet 49", x.zone(1, 0), 0);
        x.print(1);
        Due.is("sheet 50", x.zone(1, 0), 5);
    }

    private static void steersByGain() {
        InkPress x = new InkPress();
        x.rule(7, 1);
        x.rule(4, 37);
        x.steer(true);
        x.set(0, 2, 0);
        x.set(1, 2, 27);
        x.set(2, 2, 28);
        x.set(3, 2, 108);
        x.print(1);
        // 999 by 1000 is cut to 0; 1036 to 1; 3996 to 3.
        Due.is("gain 0", x.zone(0, 0), 0);
        Due.is("gain 999", x.zone(1, 0), 0);
        Due.is("gain 1036", x.zone(2, 0), 1);
        Due.is("gain 3996", x.zone(3, 0), 3);
    }

    private static void steersEveryZone() {
        InkPress x = new InkPress();
        x.press(8, 5);
        x.rule(7, 1);
        x.steer(true);
        x.print(1);
        for (int z = 0; z < 8; z++) {
            Due.is("key " + z, x.zone(z, 0), 5);
        }
    }

    private static void steersWithinStep() {
        InkPress x = new InkPress();
        x.rule(7, 1);
        x.rule(4, 200);
        x.rule(5, 7);
        x.set(0, 2, 1000);
        x.set(1, 0, 97);
        x.set(1, 2, 1000);
        x.steer(true);
        x.print(1);
        Due.is("up by a step", x.zone(0, 0), 7);
        Due.is("at most 100", x.zone(1, 0), 100);
        x.rule(5, 100);
        x.print(1);
        Due.is("up to 100", x.zone(0, 0), 100);
    }

    private static void steersDown() {
        InkPress x = new InkPress();
        x.press(2, 2);
        x.rule(2, 0);
        x.rule(7, 50);
        x.rule(5, 9);
        x.steer(true);
        for (int z = 0; z < 2; z++) {
            x.set(z, 0, 100);
            x.set(z, 1, 0);
        }
        x.print(49);
        x.set(0, 2, 0);
        x.set(1, 2, 1000);
        x.print(1);
        int density = x.density(50, 0);
        Due.holds("too much ink", density > 1000);
        Due.is("down by a step", x.zone(0, 0), 91);
        int more = (1000 - x.density(50, 1)) * 50 / 1000;
        Due.is("down by gain", x.zone(1, 0), 100 + Math.max(more, -9));
        x.rule(7, 1);
        x.set(0, 0, 4);
        x.print(1);
        Due.is("at least 0", x.zone(0, 0), 0);

        // A fall of less than 1 is cut to 0, not to -1.
        x.rule(4, 1);
        int next = x.zone(1, 3);
        x.set(1, 2, Math.min(1000, next));
        int key = x.zone(1, 0);
        x.steer(true);
        x.print(1);
        int fall = (x.zone(1, 2) - x.zone(1, 3)) / 1000;
        Due.is("cut towards 0", x.zone(1, 0), key + Math.max(-9, fall));
    }

    private static void goodAsItWasThen() {
        InkPress x = new InkPress();
        x.print(1);
        x.rule(6, 100);
        x.print(1);
        x.set(3, 2, 101);
        x.print(1);
        x.set(3, 2, 0);
        x.print(1);
        Due.is("good 1", x.good(1), 0);
        Due.is("good 2", x.good(2), 1);
        Due.is("good 3", x.good(3), 0);
        Due.is("good 4", x.good(4), 1);
        x.rule(6, 0);
        Due.is("good 4 stays", x.good(4), 1);
        Due.is("good 5", x.good(5), InkPress.UNKNOWN);
        Due.is("good 0", x.good(0), InkPress.UNKNOWN);
        Due.is("good -1", x.good(-1), InkPress.UNKNOWN);
        Due.is("good huge", x.good(Integer.MAX_VALUE), InkPress.UNKNOWN);
        Due.is("good huge", x.good(Integer.MIN_VALUE), InkPress.UNKNOWN);
        Due.is("good ones", x.told(1), 2);
        Due.is("waste", x.told(2), 2);
    }

    /** A press of two zones whose density is 100 on the first sheet in both. */
    private static InkPress ofDensity100() {
        InkPress x = new InkPress();
        x.press(2, 2);
        x.rule(2, 0);
        x.rule(0, 20);
        for (int z = 0; z < 2; z++) {
            x.set(z, 0, 100);
        }
        return x;
    }

    private static void goodAtTheEdge() {
        int[] targets = {89, 90, 100, 110, 111};
        int[] due = {0, 1, 1, 1, 0};
        for (int i = 0; i < targets.length; i++) {
            InkPress x = ofDensity100();
            x.set(1, 2, targets[i]);
            x.print(1);
            Due.is("density", x.density(1, 1), 100);
            Due.is("good by target " + targets[i], x.good(1), due[i]);
        }
        InkPress x = ofDensity100();
        x.rule(6, 0);
        x.print(1);
        Due.is("good without tolerance", x.good(1), 1);
    }

    private static void goodInEachZone() {
        for (int z = 0; z < 2; z++) {
            InkPress x = ofDensity100();
            x.set(z, 2, 500);
            x.print(1);
            Due.is("good but for zone " + z, x.good(1), 0);
        }
    }

    private static void densityOfEachSheet() {
        InkPress x = ofDensity100();
        x.set(0, 0, 0);
        x.print(3);
        Due.is("density 1 1", x.density(1, 1), 100);
        Due.is("density 1 0", x.density(1, 0), 0);
        // 1000, then 910 and 1500, then 2193 and 1750.
        Due.is("density 2 1", x.density(2, 1), 240);
        Due.is("density 3 1", x.density(3, 1), 390);
        Due.is("density 4 1", x.density(4, 1), InkPress.UNKNOWN);
        Due.is("density 0 1", x.density(0, 1), InkPress.UNKNOWN);
        Due.is("density -1 1", x.density(-1, 1), InkPress.UNKNOWN);
        Due.is("density 1 2", x.density(1, 2), InkPress.UNKNOWN);
        Due.is("density 1 -1", x.density(1, -1), InkPress.UNKNOWN);
        Due.is("density huge", x.density(Integer.MAX_VALUE, Integer.MAX_VALUE), InkPress.UNKNOWN);
        Due.is("density huge", x.density(Integer.MIN_VALUE, 0), InkPress.UNKNOWN);
    }

    private static void startByHold() {
        InkPress x = new InkPress();
        x.rule(8, 3);
        x.print(4);
        x.rule(6, 100);
        x.print(2);
        Due.is("start", x.told(3), InkPress.NONE);
        x.print(1);
        Due.is("start", x.told(3), 7);
        x.rule(6, 0);
        x.print(1);
        x.rule(6, 100);
        x.print(5);
        Due.is("start stays", x.told(3), 7);
    }

    private static void startByHoldAsItIsThen() {
        InkPress x = new InkPress();
        x.rule(8, 20);
        x.rule(6, 100);
        x.print(4);
        x.rule(8, 2);
        Due.is("no sheet since", x.told(3), InkPress.NONE);
        x.print(1);
        Due.is("start", x.told(3), 5);

        x = new InkPress();
        x.rule(8, 20);
        x.rule(6, 100);
        x.print(4);
        x.rule(8, 2);
        x.rule(6, 0);
        x.print(1);
        Due.is("not good", x.told(3), InkPress.NONE);

        x = new InkPress();
        x.rule(6, 100);
        x.rule(8, 1);
        x.print(1);
        Due.is("hold 1", x.told(3), 1);
    }

    private static void startNeedsSheetsInARow() {
        InkPress x = new InkPress();
        for (int i = 0; i < 5; i++) {
            x.rule(6, 100);
            x.print(1);
            x.rule(6, 10);
            x.print(1);
        }
        Due.is("good ones", x.told(1), 5);
        Due.is("none in a row", x.told(3), InkPress.NONE);
        x.rule(6, 100);
        x.print(1);
        Due.is("one alone", x.told(3), InkPress.NONE);
        x.print(1);
        Due.is("two in a row", x.told(3), 12);
    }

    private static void pastAnswers() {
        InkPress x = new InkPress();
        Due.is("past 101 0", x.past(101, 0), InkPress.OUTSIDE);
        Due.is("past -1 0", x.past(-1, 0), InkPress.OUTSIDE);
        Due.is("past 0 101", x.past(0, 101), InkPress.OUTSIDE);
        Due.is("past 0 -1", x.past(0, -1), InkPress.OUTSIDE);
        Due.is("past huge", x.past(Integer.MAX_VALUE, Integer.MIN_VALUE), InkPress.OUTSIDE);
        Due.is("none yet", x.told(9), 0);
        for (int i = 1; i <= 30; i++) {
            Due.is("past", x.past(i % 2 * 100, i % 3 * 50), i);
        }
        int preset = x.preset(50);
        Due.is("past full", x.past(50, 50), InkPress.FULL);
        Due.is("past, outside first", x.past(101, 50), InkPress.OUTSIDE);
        Due.is("told 9", x.told(9), 30);
        Due.is("preset stays", x.preset(50), preset);
    }

    private static void presetByLine() {
        InkPress x = new InkPress();
        x.past(20, 30);
        x.past(40, 45);
        x.past(60, 63);
        // Slope 33 by 40, so 13 at 0: (13 and 33 c by 40), cut.
        Due.is("preset 0", x.preset(0), 13);
        Due.is("preset 20", x.preset(20), 29);
        Due.is("preset 40", x.preset(40), 46);
        Due.is("preset 41", x.preset(41), 46);
        Due.is("preset 100", x.preset(100), 95);
        Due.is("preset 101", x.preset(101), InkPress.OUTSIDE);
        Due.is("preset -1", x.preset(-1), InkPress.OUTSIDE);

        x = new InkPress();
        x.past(40, 90);
        x.past(50, 10);
        Due.is("preset held to 100", x.preset(0), 100);
        Due.is("preset 45", x.preset(45), 50);
        Due.is("preset held to 0", x.preset(100), 0);
    }

    private static void presetWithoutLine() {
        InkPress x = new InkPress();
        Due.is("preset, none", x.preset(20), InkPress.STATE);
        Due.is("preset, outside first", x.preset(101), InkPress.OUTSIDE);
        Due.is("preset huge", x.preset(Integer.MIN_VALUE), InkPress.OUTSIDE);
        x.past(0, 7);
        Due.is("one job at 0", x.preset(100), 7);
        x.past(0, 10);
        Due.is("17 by 2", x.preset(50), 8);
        x.past(0, 100);
        Due.is("117 by 3", x.preset(0), 39);
    }

    private static void presetsSetKeys() {
        InkPress x = new InkPress();
        Due.is("presets, none", x.presets(), InkPress.STATE);
        x.past(0, 0);
        x.past(100, 100);
        x.set(0, 1, 0);
        x.set(1, 1, 35);
        x.set(2, 0, 20);
        x.set(3, 0, 21);
        Due.is("presets", x.presets(), 2);
        Due.is("key 0", x.zone(0, 0), 0);
        Due.is("key 1", x.zone(1, 0), 35);
        Due.is("key 2", x.zone(2, 0), 20);
        Due.is("key 3", x.zone(3, 0), 20);
        Due.is("presets again", x.presets(), 0);
        Due.is("covers stay", x.zone(1, 1), 35);
        x.press(8, 2);
        Due.is("presets of all zones", x.presets(), 8);
        for (int z = 0; z < 8; z++) {
            Due.is("key " + z, x.zone(z, 0), 20);
        }
    }

    private static void toldAnswers() {
        InkPress x = ofDensity100();
        x.past(1, 1);
        x.past(2, 1);
        x.steer(true);
        x.print(2);
        int[] due = {2, 1, 1, InkPress.NONE, 8000, 0, 0, 68, 1, 2};
        // Sheet 1: 1000 reach the end: 80 go onto the paper, 10 onto the bar; sheet 2: of 2410 192 and 24.
        due[6] = 2 * (80 + 192);
        due[5] = due[4] - due[6] - due[7];
        for (int what = 0; what <= 9; what++) {
            Due.is("told " + what, x.told(what), due[what]);
        }
        int outside = InkPress.LOST + InkPress.OUTSIDE;
        Due.is("told 10", x.told(10), outside);
        Due.is("told -1", x.told(-1), outside);
        Due.is("told huge", x.told(Integer.MAX_VALUE), outside);
        Due.is("told huge", x.told(Integer.MIN_VALUE), outside);
    }
}
