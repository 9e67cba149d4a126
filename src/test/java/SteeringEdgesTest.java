/** Promises 8 to 10 and THE START at their boundaries, a method for each sentence. */
public final class SteeringEdgesTest {
    private static final int FEED = Presses.FEED, PASS = Presses.PASS, GAIN = Presses.GAIN, STEP = Presses.STEP;
    private static final int TOLERANCE = Presses.TOLERANCE, EVERY = Presses.EVERY, HOLD = Presses.HOLD;
    private static final int KEY = Presses.KEY, TARGET = Presses.TARGET;
    private static final int START = Presses.START, GOOD = Presses.GOOD, WASTE = Presses.WASTE;
    private static final int UNKNOWN = InkPress.UNKNOWN, NONE = InkPress.NONE;

    public static void main(String[] args) {
        steerAnswersWhatItWas();
        steersBehindMultiplesOfEvery();
        steersByTheNumberOfTheSheet();
        steersByEveryAsItIsThen();
        steersNotWhenOff();
        steersBehindTheSheet();
        steersEachZoneByItsOwn();
        changeAboveZeroIsCut();
        changeBelowZeroIsCut();
        changeByGainAtItsEnds();
        changeIsHeldToStep();
        changeIsHeldToMinusStep();
        stepAtItsEnds();
        keyIsHeldToHundred();
        keyIsHeldToZero();
        changeOfTheMostDensity();

        goodSheetThereIsNot();
        goodAtToleranceBelowTarget();
        goodAtToleranceAboveTarget();
        goodWithToleranceZero();
        goodWithTheMostTolerance();
        goodInEachZone();
        goodAsTargetsWereThen();
        goodAsToleranceWasThen();
        goodAndWasteAreAllSheets();
        densitySheetThereIsNot();
        densityZoneThereIsNot();
        densityOfTheFirstAndTheLast();

        startNotYet();
        startIsTheLastOfThese();
        startWithHoldAtItsEnds();
        startOneBehindTheOther();
        startWithinOnePrint();
        startWithHoldLowered();
        startWithHoldRaised();
        startStays();
        Due.end();
    }

    private static void steerAnswersWhatItWas() {
        Due.sentence("steer answers whether it was on");
        InkPress x = new InkPress();
        Due.is("off, off", x.steer(false), 0);
        Due.is("off, on", x.steer(true), 0);
        Due.is("told 8", x.told(8), 1);
        Due.is("on, on", x.steer(true), 1);
        Due.is("on, off", x.steer(false), 1);
        Due.is("told 8", x.told(8), 0);
        Due.is("off, off", x.steer(false), 0);
    }

    private static void keyBehind(InkPress x, int sheet, int key) {
        x.print(sheet - x.told(Presses.SHEETS));
        Due.is("key behind sheet " + sheet, x.zone(0, KEY), key);
    }

    private static void steersBehindMultiplesOfEvery() {
        Due.sentence("behind each SHEET whose number is a multiple of EVERY, from 1 to 50");
        InkPress x = Presses.countingSteerings(1);
        for (int sheet = 1; sheet <= 9; sheet++) {
            keyBehind(x, sheet, sheet);
        }
        x = Presses.countingSteerings(3);
        for (int sheet = 1; sheet <= 13; sheet++) {
            keyBehind(x, sheet, sheet / 3);
        }
        x = Presses.countingSteerings(50);
        keyBehind(x, 49, 0);
        keyBehind(x, 50, 1);
        keyBehind(x, 51, 1);
        keyBehind(x, 99, 1);
        keyBehind(x, 100, 2);
        x = Presses.countingSteerings(5);
        keyBehind(x, 23, 4);
    }

    private static void steersByTheNumberOfTheSheet() {
        Due.sentence("SHEETS are numbered from 1 on, as they were printed, those without STEERING too");
        InkPress x = Presses.countingSteerings(5);
        x.steer(false);
        keyBehind(x, 3, 0);
        x.steer(true);
        keyBehind(x, 4, 0);
        keyBehind(x, 5, 1);
        x.steer(false);
        keyBehind(x, 11, 1);
        x.steer(true);
        keyBehind(x, 14, 1);
        keyBehind(x, 15, 2);
        x.print(0);
        x.print(201);
        keyBehind(x, 19, 2);
        keyBehind(x, 20, 3);
    }

    private static void steersByEveryAsItIsThen() {
        Due.sentence("EVERY as it is behind that SHEET");
        InkPress x = Presses.countingSteerings(5);
        keyBehind(x, 4, 0);
        x.rule(EVERY, 3);
        keyBehind(x, 5, 0);
        keyBehind(x, 6, 1);
        x.rule(EVERY, 4);
        keyBehind(x, 7, 1);
        keyBehind(x, 8, 2);
        x.rule(EVERY, 1);
        keyBehind(x, 9, 3);
    }

    private static void steersNotWhenOff() {
        Due.sentence("STEERING off: KEYS stay");
        InkPress x = Presses.countingSteerings(1);
        keyBehind(x, 2, 2);
        x.steer(false);
        keyBehind(x, 60, 2);
    }

    private static void steersBehindTheSheet() {
        Due.sentence("STEERING is behind the SHEET: its own ink and whether it is GOOD are of the KEYS ahead");
        InkPress x = Presses.steeredOfDensity90();
        x.set(0, TARGET, 190);
        x.set(1, TARGET, 90);
        x.rule(TOLERANCE, 100);
        x.print(1);
        Due.is("in", x.told(Presses.IN), 2000);
        Due.is("density", x.density(1, 0), 90);
        Due.is("good", x.good(1), 1);
        Due.is("key 0", x.zone(0, KEY), 60);
        Due.is("key 1", x.zone(1, KEY), 50);
        x.print(1);
        Due.is("in", x.told(Presses.IN), 2000 + 1200 + 1000);
    }

    private static void steersEachZoneByItsOwn() {
        Due.sentence("each KEY by its own TARGET and DENSITY");
        InkPress x = Presses.plain(8, 5);
        x.rule(EVERY, 1);
        x.rule(GAIN, 10);
        x.rule(STEP, 100);
        x.steer(true);
        for (int z = 0; z < 8; z++) {
            x.set(z, TARGET, 100 * (z + 1));
        }
        x.print(1);
        for (int z = 0; z < 8; z++) {
            Due.is("key " + z, x.zone(z, KEY), z + 1);
        }
        x = Presses.steeredOfDensity90();
        x.set(1, KEY, 100);
        x.set(0, TARGET, 140);
        x.set(1, TARGET, 140);
        x.print(1);
        // 2000 come in ZONE 1, 1800 go on: DENSITY 180.
        Due.is("key 0", x.zone(0, KEY), 55);
        Due.is("key 1", x.zone(1, KEY), 96);
    }

    private static void changeIs(InkPress x, int target, int change) {
        x.set(0, TARGET, target);
        x.print(1);
        Due.is("change by target " + target, x.zone(0, KEY) - 50, change);
    }

    private static void changeAboveZeroIsCut() {
        Due.sentence("(TARGET less DENSITY) times GAIN by 1000 above 0 is cut");
        changeIs(Presses.steeredOfDensity90(), 90, 0);
        changeIs(Presses.steeredOfDensity90(), 99, 0);
        changeIs(Presses.steeredOfDensity90(), 100, 1);
        changeIs(Presses.steeredOfDensity90(), 109, 1);
        changeIs(Presses.steeredOfDensity90(), 110, 2);
    }

    private static void changeBelowZeroIsCut() {
        Due.sentence("(TARGET less DENSITY) times GAIN by 1000 below 0 is cut towards 0");
        changeIs(Presses.steeredOfDensity90(), 89, 0);
        changeIs(Presses.steeredOfDensity90(), 81, 0);
        changeIs(Presses.steeredOfDensity90(), 80, -1);
        changeIs(Presses.steeredOfDensity90(), 71, -1);
        changeIs(Presses.steeredOfDensity90(), 70, -2);
    }

    private static void changeByGainAtItsEnds() {
        Due.sentence("GAIN 1 and GAIN 200");
        InkPress x = Presses.steeredOfDensity90();
        x.rule(GAIN, 1);
        changeIs(x, 1000, 0);
        x = Presses.steeredOfDensity90();
        x.rule(GAIN, 200);
        changeIs(x, 94, 0);
        x = Presses.steeredOfDensity90();
        x.rule(GAIN, 200);
        changeIs(x, 95, 1);
        x = Presses.steeredOfDensity90();
        x.rule(GAIN, 200);
        changeIs(x, 0, -18);
        x = Presses.countingSteerings(1);
        x.set(0, TARGET, 999);
        x.print(1);
        Due.is("gain 1 of 999", x.zone(0, KEY), 0);
        x.set(0, TARGET, 1000);
        x.print(1);
        Due.is("gain 1 of 1000", x.zone(0, KEY), 1);
    }

    private static InkPress ofStep3() {
        InkPress x = Presses.steeredOfDensity90();
        x.rule(STEP, 3);
        return x;
    }

    private static void changeIsHeldToStep() {
        Due.sentence("the change is held to STEP");
        changeIs(ofStep3(), 119, 2);
        changeIs(ofStep3(), 120, 3);
        changeIs(ofStep3(), 130, 3);
        changeIs(ofStep3(), 1000, 3);
    }

    private static void changeIsHeldToMinusStep() {
        Due.sentence("the change is held to -STEP");
        changeIs(ofStep3(), 61, -2);
        changeIs(ofStep3(), 60, -3);
        changeIs(ofStep3(), 50, -3);
        changeIs(ofStep3(), 0, -3);
    }

    private static void keyOfStep(int step, int target, int key) {
        InkPress x = Presses.plain(2, 2);
        x.rule(EVERY, 1);
        x.rule(GAIN, 200);
        x.rule(STEP, step);
        x.set(0, TARGET, target);
        x.steer(true);
        x.print(1);
        Due.is("key by step " + step + " and target " + target, x.zone(0, KEY), key);
    }

    private static void stepAtItsEnds() {
        Due.sentence("STEP 1 and STEP 100");
        keyOfStep(1, 5, 1);
        keyOfStep(1, 1000, 1);
        keyOfStep(99, 1000, 99);
        keyOfStep(100, 495, 99);
        keyOfStep(100, 1000, 100);
        int[] steps = {1, 99, 100};
        for (int step : steps) {
            // Six SHEETS with all KEYS at 100 bring so much ink that the change would be far below -100.
            InkPress x = Presses.ofDensity90();
            x.set(0, KEY, 100);
            x.set(0, TARGET, 0);
            x.print(6);
            x.rule(EVERY, 1);
            x.rule(GAIN, 200);
            x.rule(STEP, step);
            x.steer(true);
            x.print(1);
            Due.holds("density", x.density(7, 0) > 1000);
            Due.is("key down by step " + step, x.zone(0, KEY), 100 - step);
        }
    }

    private static void keyIsHeldToHundred() {
        Due.sentence("the KEY is held to 100");
        int[] targets = {180, 190, 200, 210, 1000};
        int[] due = {99, 100, 100, 100, 100};
        for (int i = 0; i < targets.length; i++) {
            InkPress x = Presses.steeredOfDensity90();
            x.set(0, KEY, 98);
            x.set(0, TARGET, targets[i]);
            x.print(1);
            // 1960 come, 1764 go on: DENSITY 170.
            Due.is("key by target " + targets[i], x.zone(0, KEY), due[i]);
        }
    }

    private static void keyIsHeldToZero() {
        Due.sentence("the KEY is held to 0");
        int[] targets = {90, 80, 70, 0};
        int[] due = {1, 0, 0, 0};
        for (int i = 0; i < targets.length; i++) {
            InkPress x = Presses.ofDensity90();
            x.print(1);
            x.rule(EVERY, 1);
            x.rule(GAIN, 100);
            x.steer(true);
            x.set(0, KEY, 2);
            x.set(0, TARGET, targets[i]);
            x.print(1);
            // 140 are there, 126 go on to 891: DENSITY 100.
            Due.is("density", x.zone(0, Presses.DENSITY), 100);
            Due.is("key by target " + targets[i], x.zone(0, KEY), due[i]);
        }
    }

    private static void changeOfTheMostDensity() {
        Due.sentence("a change of as much DENSITY as there may be");
        InkPress x = Presses.plain(2, 2);
        x.rule(FEED, 20);
        x.rule(PASS, 1);
        x.set(0, KEY, 100);
        for (int i = 0; i < 4; i++) {
            x.print(200);
        }
        x.print(199);
        x.rule(PASS, 90);
        x.rule(EVERY, 1);
        x.rule(GAIN, 200);
        x.rule(STEP, 7);
        x.set(0, TARGET, 0);
        x.steer(true);
        x.print(1);
        Due.holds("density", x.density(1000, 0) > 10000);
        Due.is("key", x.zone(0, KEY), 93);
    }

    private static void goodSheetThereIsNot() {
        Due.sentence("good: SHEET 0, the first, the last, one more");
        InkPress x = new InkPress();
        Due.is("good 1 of none", x.good(1), UNKNOWN);
        Due.is("good 0 of none", x.good(0), UNKNOWN);
        Presses.printGood(x, 1);
        Presses.printWaste(x, 1);
        Presses.printGood(x, 1);
        Due.is("good 0", x.good(0), UNKNOWN);
        Due.is("good -1", x.good(-1), UNKNOWN);
        Due.is("good 1", x.good(1), 1);
        Due.is("good 2", x.good(2), 0);
        Due.is("good 3", x.good(3), 1);
        Due.is("good 4", x.good(4), UNKNOWN);
        for (int i = 0; i < 4; i++) {
            x.print(200);
        }
        x.print(197);
        Due.is("good 1000", x.good(1000), 1);
        Due.is("good 1001", x.good(1001), UNKNOWN);
    }

    private static void goodIs(int tolerance, int target, int good) {
        InkPress x = Presses.ofDensity90();
        x.rule(TOLERANCE, tolerance);
        x.set(0, TARGET, 90);
        x.set(1, TARGET, target);
        x.print(1);
        Due.is("good by tolerance " + tolerance + " and target " + target, x.good(1), good);
        Due.is("good ones", x.told(GOOD), good);
        Due.is("waste", x.told(WASTE), 1 - good);
    }

    private static void goodAtToleranceBelowTarget() {
        Due.sentence("GOOD: DENSITY just TOLERANCE below TARGET, and one beyond");
        goodIs(10, 99, 1);
        goodIs(10, 100, 1);
        goodIs(10, 101, 0);
    }

    private static void goodAtToleranceAboveTarget() {
        Due.sentence("GOOD: DENSITY just TOLERANCE above TARGET, and one beyond");
        goodIs(10, 81, 1);
        goodIs(10, 80, 1);
        goodIs(10, 79, 0);
    }

    private static void goodWithToleranceZero() {
        Due.sentence("GOOD with TOLERANCE 0");
        goodIs(0, 89, 0);
        goodIs(0, 90, 1);
        goodIs(0, 91, 0);
    }

    private static void goodWithTheMostTolerance() {
        Due.sentence("GOOD with TOLERANCE 500");
        goodIs(500, 590, 1);
        goodIs(500, 591, 0);
        goodIs(500, 0, 1);
        int[] targets = {70, 69};
        for (int target : targets) {
            InkPress x = Presses.ofDensity90();
            x.set(0, KEY, 100);
            x.set(1, KEY, 100);
            x.rule(TOLERANCE, 500);
            x.set(0, TARGET, target);
            x.set(1, TARGET, 570);
            x.print(3);
            // 1800 less 18, and 1980, less 37, and 1998: 5723.
            Due.is("density", x.density(3, 0), 570);
            Due.is("good by target " + target, x.good(3), target == 70 ? 1 : 0);
        }
    }

    private static void goodInEachZone() {
        Due.sentence("GOOD if in each ZONE");
        for (int zones = 2; zones <= 8; zones++) {
            InkPress x = new InkPress();
            x.press(zones, 2);
            for (int z = 0; z < zones; z++) {
                x.set(z, TARGET, 10);
            }
            for (int z = 0; z < zones; z++) {
                x.set(z, TARGET, 11);
                Due.is("good but for zone " + z, x.good(x.print(1)), 0);
                x.set(z, TARGET, 10);
                Due.is("good with zone " + z, x.good(x.print(1)), 1);
            }
        }
    }

    private static void goodAsTargetsWereThen() {
        Due.sentence("GOOD as TARGETS were then");
        InkPress x = new InkPress();
        for (int z = 0; z < 4; z++) {
            x.set(z, TARGET, 0);
        }
        x.print(1);
        x.set(3, TARGET, 1000);
        Due.is("good 1, target changed", x.good(1), 1);
        x.print(1);
        Due.is("good 2", x.good(2), 0);
        x.set(3, TARGET, 0);
        Due.is("good 1", x.good(1), 1);
        Due.is("good 2, target changed", x.good(2), 0);
        Due.is("good ones", x.told(GOOD), 1);
        Due.is("waste", x.told(WASTE), 1);
    }

    private static void goodAsToleranceWasThen() {
        Due.sentence("GOOD as TOLERANCE was then");
        InkPress x = new InkPress();
        Presses.printGood(x, 1);
        x.rule(TOLERANCE, 0);
        Due.is("good 1, tolerance changed", x.good(1), 1);
        x.print(1);
        x.rule(TOLERANCE, 500);
        Due.is("good 1", x.good(1), 1);
        Due.is("good 2, tolerance changed", x.good(2), 0);
        Due.is("good ones", x.told(GOOD), 1);
        Due.is("waste", x.told(WASTE), 1);
    }

    private static void goodAndWasteAreAllSheets() {
        Due.sentence("WASTE are SHEETS that are not GOOD, those behind THE START too");
        InkPress x = new InkPress();
        Presses.printWaste(x, 3);
        Presses.printGood(x, 4);
        Due.is("start", x.told(START), 5);
        Presses.printWaste(x, 5);
        Due.is("good ones", x.told(GOOD), 4);
        Due.is("waste", x.told(WASTE), 8);
        Due.is("sheets", x.told(Presses.SHEETS), 12);
    }

    private static void densitySheetThereIsNot() {
        Due.sentence("density: SHEET 0, the first, the last, one more");
        InkPress x = Presses.ofDensity90();
        Due.is("density 0 0 of none", x.density(0, 0), UNKNOWN);
        Due.is("density 1 0 of none", x.density(1, 0), UNKNOWN);
        x.print(2);
        Due.is("density -1 0", x.density(-1, 0), UNKNOWN);
        Due.is("density 0 0", x.density(0, 0), UNKNOWN);
        Due.is("density 1 0", x.density(1, 0), 90);
        Due.is("density 2 0", x.density(2, 0), 180);
        Due.is("density 3 0", x.density(3, 0), UNKNOWN);
    }

    private static void densityZoneThereIsNot() {
        Due.sentence("density: a ZONE that there is not");
        InkPress x = new InkPress();
        for (int zones = 2; zones <= 8; zones++) {
            x.press(zones, 2);
            x.print(3);
            Due.is("density 2 -1", x.density(2, -1), UNKNOWN);
            Due.is("density 2 " + (zones - 1), x.density(2, zones - 1), 0);
            Due.is("density 2 " + zones, x.density(2, zones), UNKNOWN);
            Due.is("both are not", x.density(4, zones), UNKNOWN);
        }
    }

    private static void densityOfTheFirstAndTheLast() {
        Due.sentence("density of each SHEET and ZONE, of 1 and of 1000");
        InkPress x = Presses.plain(8, 2);
        x.rule(FEED, 20);
        x.rule(PASS, 90);
        for (int z = 0; z < 8; z++) {
            x.set(z, KEY, 10 * z);
        }
        x.print(1);
        int[] due = {0, 10, 30, 50, 70, 90, 100, 120};
        for (int i = 0; i < 4; i++) {
            x.print(200);
        }
        x.print(199);
        for (int z = 0; z < 8; z++) {
            // 180 z go on, of which a hundredth, cut, goes onto the bar.
            Due.is("density 1 " + z, x.density(1, z), due[z]);
            Due.is("density 1000 " + z, x.density(1000, z), x.zone(z, Presses.DENSITY));
        }
        Due.is("density 1001 0", x.density(1001, 0), UNKNOWN);
        Due.holds("the last is not the first", x.density(1000, 7) > 1000);
    }

    private static void startNotYet() {
        Due.sentence("THE START is NONE as long as there is none");
        InkPress x = new InkPress();
        Due.is("no sheets", x.told(START), NONE);
        Presses.printWaste(x, 30);
        Due.is("waste alone", x.told(START), NONE);
        Presses.printGood(x, 1);
        Due.is("one good sheet", x.told(START), NONE);
    }

    private static void startIsTheLastOfThese() {
        Due.sentence("THE START is that of the last one of HOLD SHEETS");
        InkPress x = new InkPress();
        x.rule(HOLD, 3);
        Presses.printWaste(x, 4);
        Presses.printGood(x, 2);
        Due.is("two", x.told(START), NONE);
        Presses.printGood(x, 1);
        Due.is("three", x.told(START), 7);
    }

    private static void startWithHoldAtItsEnds() {
        Due.sentence("THE START with HOLD 1 and HOLD 20");
        InkPress x = new InkPress();
        x.rule(HOLD, 1);
        Presses.printWaste(x, 3);
        Due.is("hold 1, none", x.told(START), NONE);
        Presses.printGood(x, 1);
        Due.is("hold 1, one", x.told(START), 4);
        x = new InkPress();
        x.rule(HOLD, 20);
        Presses.printGood(x, 19);
        Due.is("hold 20, 19", x.told(START), NONE);
        Presses.printGood(x, 1);
        Due.is("hold 20, 20", x.told(START), 20);
    }

    private static void startOneBehindTheOther() {
        Due.sentence("THE START: SHEETS one behind the other");
        InkPress x = new InkPress();
        x.rule(HOLD, 3);
        for (int i = 0; i < 4; i++) {
            Presses.printGood(x, 2);
            Presses.printWaste(x, 1);
        }
        Due.is("never three", x.told(START), NONE);
        Due.is("good ones", x.told(GOOD), 8);
        Presses.printGood(x, 2);
        Due.is("two", x.told(START), NONE);
        Presses.printGood(x, 1);
        Due.is("three", x.told(START), 15);
    }

    private static void startWithinOnePrint() {
        Due.sentence("THE START within one call of print");
        InkPress x = new InkPress();
        x.rule(HOLD, 5);
        Presses.printGood(x, 200);
        Due.is("of one call", x.told(START), 5);
        x = Presses.ofDensity90();
        x.set(0, TARGET, 180);
        x.set(1, TARGET, 180);
        x.rule(HOLD, 1);
        x.print(9);
        // DENSITY is 90 and 180 on the first two.
        Due.is("of the one good sheet", x.told(START), 2);
        Due.is("good ones", x.told(GOOD), 1);
    }

    private static void startWithHoldLowered() {
        Due.sentence("THE START with HOLD as it is then: lowered");
        InkPress x = new InkPress();
        x.rule(HOLD, 20);
        Presses.printGood(x, 4);
        x.rule(HOLD, 5);
        Presses.printGood(x, 1);
        Due.is("just five", x.told(START), 5);

        x = new InkPress();
        x.rule(HOLD, 20);
        Presses.printGood(x, 6);
        x.rule(HOLD, 2);
        Due.is("no sheet since", x.told(START), NONE);
        Presses.printGood(x, 1);
        Due.is("seven, two are enough", x.told(START), 7);

        x = new InkPress();
        x.rule(HOLD, 20);
        Presses.printGood(x, 6);
        x.rule(HOLD, 2);
        Presses.printWaste(x, 1);
        Due.is("waste", x.told(START), NONE);
        Presses.printGood(x, 1);
        Due.is("one", x.told(START), NONE);
        Presses.printGood(x, 1);
        Due.is("two", x.told(START), 9);
    }

    private static void startWithHoldRaised() {
        Due.sentence("THE START with HOLD as it is then: raised");
        InkPress x = new InkPress();
        x.rule(HOLD, 3);
        Presses.printGood(x, 2);
        x.rule(HOLD, 4);
        Presses.printGood(x, 1);
        Due.is("three", x.told(START), NONE);
        Presses.printGood(x, 1);
        Due.is("four", x.told(START), 4);
    }

    private static void startStays() {
        Due.sentence("THE START stays");
        InkPress x = new InkPress();
        Presses.printWaste(x, 1);
        Presses.printGood(x, 2);
        Due.is("start", x.told(START), 3);
        Presses.printGood(x, 1);
        Due.is("a good sheet more", x.told(START), 3);
        Presses.printWaste(x, 3);
        Due.is("waste", x.told(START), 3);
        Presses.printGood(x, 9);
        Due.is("good ones again", x.told(START), 3);
        x.rule(HOLD, 1);
        Presses.printGood(x, 1);
        Due.is("hold 1", x.told(START), 3);
        x.rule(HOLD, 20);
        Presses.printGood(x, 30);
        Due.is("hold 20", x.told(START), 3);
    }
}
