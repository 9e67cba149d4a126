/** Promises 11 to 14 at their boundaries, a method for each sentence. */
public final class PastJobsEdgesTest {
    private static final int KEY = Presses.KEY, COVER = Presses.COVER;
    private static final int OUTSIDE = InkPress.OUTSIDE, STATE = InkPress.STATE, FULL = InkPress.FULL;

    public static void main(String[] args) {
        pastCoverAtItsEnds();
        pastKeyAtItsEnds();
        pastFull();
        pastOutsideAheadOfFull();

        presetOfNone();
        presetCoverAtItsEnds();
        presetOutsideAheadOfState();
        presetOfOne();
        presetOfSeveralWithOneCover();
        presetLowerNumberIsZeroNoMore();
        presetByALine();
        presetIsCutOnce();
        presetIsHeldToHundred();
        presetIsHeldToZero();
        presetOfThirty();
        presetChangesNothing();

        presetsOfNone();
        presetsHowManyAreOther();
        presetsOfEachZone();
        presetsAreHeld();

        toldOfEach();
        toldWhatThereIsNot();
        Due.end();
    }

    private static void pastCoverAtItsEnds() {
        Due.sentence("past: COVER 0 to 100");
        InkPress x = new InkPress();
        Due.is("past -1 50", x.past(-1, 50), OUTSIDE);
        Due.is("past 101 50", x.past(101, 50), OUTSIDE);
        Due.is("none yet", x.told(9), 0);
        Due.is("past 0 50", x.past(0, 50), 1);
        Due.is("past 100 50", x.past(100, 50), 2);
        Due.is("two", x.told(9), 2);
    }

    private static void pastKeyAtItsEnds() {
        Due.sentence("past: KEY 0 to 100");
        InkPress x = new InkPress();
        Due.is("past 50 -1", x.past(50, -1), OUTSIDE);
        Due.is("past 50 101", x.past(50, 101), OUTSIDE);
        Due.is("past -1 101", x.past(-1, 101), OUTSIDE);
        Due.is("none yet", x.told(9), 0);
        Due.is("past 50 0", x.past(50, 0), 1);
        Due.is("past 50 100", x.past(50, 100), 2);
        Due.is("two", x.told(9), 2);
        Due.is("preset", x.preset(50), 50);
    }

    private static InkPress thirty() {
        InkPress x = new InkPress();
        for (int i = 1; i <= 30; i++) {
            Due.is("past", x.past(2 * i, i), i);
        }
        return x;
    }

    private static void pastFull() {
        Due.sentence("past: the 30th and the 31st");
        InkPress x = thirty();
        Due.is("told 9", x.told(9), 30);
        Due.is("preset", x.preset(100), 50);
        Due.is("the 31st", x.past(100, 0), FULL);
        Due.is("told 9", x.told(9), 30);
        Due.is("preset stays", x.preset(100), 50);
    }

    private static void pastOutsideAheadOfFull() {
        Due.sentence("past: OUTSIDE ahead of FULL");
        InkPress x = thirty();
        Due.is("past 101 0", x.past(101, 0), OUTSIDE);
        Due.is("past 0 -1", x.past(0, -1), OUTSIDE);
        Due.is("past 0 0", x.past(0, 0), FULL);
    }

    private static void presetOfNone() {
        Due.sentence("preset: there are no PAST JOBS");
        InkPress x = new InkPress();
        Due.is("preset 0", x.preset(0), STATE);
        Due.is("preset 100", x.preset(100), STATE);
    }

    private static void presetCoverAtItsEnds() {
        Due.sentence("preset: COVER 0 to 100");
        InkPress x = new InkPress();
        x.past(0, 3);
        x.past(100, 97);
        Due.is("preset -1", x.preset(-1), OUTSIDE);
        Due.is("preset 0", x.preset(0), 3);
        Due.is("preset 100", x.preset(100), 97);
        Due.is("preset 101", x.preset(101), OUTSIDE);
    }

    private static void presetOutsideAheadOfState() {
        Due.sentence("preset: OUTSIDE ahead of STATE");
        InkPress x = new InkPress();
        Due.is("preset -1", x.preset(-1), OUTSIDE);
        Due.is("preset 101", x.preset(101), OUTSIDE);
    }

    private static void presetOfOne() {
        Due.sentence("preset: of one PAST JOB the lower number is 0");
        int[] covers = {0, 1, 100};
        for (int cover : covers) {
            InkPress x = new InkPress();
            x.past(cover, 77);
            Due.is("preset 0", x.preset(0), 77);
            Due.is("preset 50", x.preset(50), 77);
            Due.is("preset 100", x.preset(100), 77);
        }
    }

    private static void presetOfSeveralWithOneCover() {
        Due.sentence("preset: if the lower number is 0, Y by m, cut");
        InkPress x = new InkPress();
        x.past(40, 10);
        x.past(40, 11);
        Due.is("21 by 2", x.preset(0), 10);
        x.past(40, 11);
        Due.is("32 by 3", x.preset(100), 10);
        x.past(40, 12);
        Due.is("44 by 4", x.preset(40), 11);
        x = new InkPress();
        for (int i = 0; i < 30; i++) {
            x.past(100, 100);
        }
        Due.is("3000 by 30", x.preset(0), 100);
        x = new InkPress();
        for (int i = 0; i < 29; i++) {
            x.past(0, 0);
        }
        x.past(0, 29);
        Due.is("29 by 30", x.preset(100), 0);
    }

    private static void presetLowerNumberIsZeroNoMore() {
        Due.sentence("preset: a line as soon as two COVERS differ by 1");
        InkPress x = new InkPress();
        x.past(40, 10);
        x.past(40, 10);
        Due.is("preset 45", x.preset(45), 10);
        x.past(41, 11);
        Due.is("preset 45", x.preset(45), 15);
        Due.is("preset 40", x.preset(40), 10);
    }

    private static void presetByALine() {
        Due.sentence("preset: a line by least squares");
        InkPress x = new InkPress();
        x.past(10, 20);
        x.past(20, 60);
        x.past(30, 40);
        // X 60, Y 120, XX 1400, XY 2600: (168000 less 156000, and c times (7800 less 7200)) by 600.
        Due.is("preset 0", x.preset(0), 20);
        Due.is("preset 15", x.preset(15), 35);
        Due.is("preset 80", x.preset(80), 100);
        x = new InkPress();
        x.past(10, 90);
        x.past(60, 40);
        Due.is("falling", x.preset(10), 90);
        Due.is("falling", x.preset(33), 67);
        Due.is("falling", x.preset(100), 0);
    }

    private static void presetIsCutOnce() {
        Due.sentence("preset: one quotient, cut");
        InkPress x = new InkPress();
        x.past(0, 0);
        x.past(3, 1);
        Due.is("2 by 3", x.preset(2), 0);
        Due.is("3 by 3", x.preset(3), 1);
        Due.is("5 by 3", x.preset(5), 1);
        Due.is("6 by 3", x.preset(6), 2);
        x = new InkPress();
        x.past(1, 1);
        x.past(3, 2);
        // A half, and c by 2: cut by themselves they would make less.
        Due.is("half and half", x.preset(1), 1);
        Due.is("half and 3 by 2", x.preset(3), 2);
        Due.is("half and 4 by 2", x.preset(4), 2);
        x = new InkPress();
        x.past(3, 1);
        x.past(5, 2);
        // c by 2 less a half: cut by themselves they would make more.
        Due.is("2 by 2 less half", x.preset(2), 0);
        Due.is("4 by 2 less half", x.preset(4), 1);
    }

    private static void presetIsHeldToHundred() {
        Due.sentence("preset: held to 100");
        InkPress x = new InkPress();
        x.past(0, 1);
        x.past(50, 51);
        Due.is("just 99", x.preset(98), 99);
        Due.is("just 100", x.preset(99), 100);
        Due.is("101", x.preset(100), 100);
        x = new InkPress();
        x.past(40, 90);
        x.past(50, 10);
        Due.is("98", x.preset(39), 98);
        Due.is("106", x.preset(38), 100);
        Due.is("410", x.preset(0), 100);
    }

    private static void presetIsHeldToZero() {
        Due.sentence("preset: held to 0");
        InkPress x = new InkPress();
        x.past(2, 1);
        x.past(51, 50);
        Due.is("just 1", x.preset(2), 1);
        Due.is("just 0", x.preset(1), 0);
        Due.is("-1", x.preset(0), 0);
        x = new InkPress();
        x.past(40, 90);
        x.past(50, 10);
        Due.is("2", x.preset(51), 2);
        Due.is("-6", x.preset(52), 0);
        Due.is("-390", x.preset(100), 0);
    }

    private static void presetOfThirty() {
        Due.sentence("preset of 30 PAST JOBS with the largest numbers");
        InkPress x = new InkPress();
        for (int i = 0; i < 15; i++) {
            x.past(100, 100);
            x.past(99, 98);
        }
        Due.is("preset 100", x.preset(100), 100);
        Due.is("preset 99", x.preset(99), 98);
        Due.is("preset 60", x.preset(60), 20);
        Due.is("preset 50", x.preset(50), 0);
    }

    private static void presetChangesNothing() {
        Due.sentence("preset changes no KEY");
        InkPress x = new InkPress();
        x.past(20, 66);
        Due.is("preset", x.preset(20), 66);
        Due.is("key", x.zone(0, KEY), 0);
        Due.is("told 9", x.told(9), 1);
    }

    private static void presetsOfNone() {
        Due.sentence("presets: there are no PAST JOBS");
        InkPress x = new InkPress();
        x.set(0, KEY, 40);
        Due.is("presets", x.presets(), STATE);
        Due.is("key 0", x.zone(0, KEY), 40);
        Due.is("key 1", x.zone(1, KEY), 0);
    }

    private static void presetsHowManyAreOther() {
        Due.sentence("presets answers how many KEYS are other ones then");
        InkPress x = new InkPress();
        x.past(0, 0);
        x.past(100, 100);
        for (int others = 0; others <= 4; others++) {
            for (int z = 0; z < 4; z++) {
                x.set(z, KEY, z < others ? 19 + 2 * (z % 2) : 20);
            }
            Due.is("presets", x.presets(), others);
            for (int z = 0; z < 4; z++) {
                Due.is("key " + z, x.zone(z, KEY), 20);
            }
        }
        Due.is("presets again", x.presets(), 0);
    }

    private static void presetsOfEachZone() {
        Due.sentence("presets: KEYS are PRESETS of their COVERS, in each ZONE");
        InkPress x = new InkPress();
        x.past(0, 0);
        x.past(100, 50);
        for (int zones = 2; zones <= 8; zones++) {
            x.press(zones, 2);
            for (int z = 0; z < zones; z++) {
                x.set(z, COVER, 100 - 10 * z);
            }
            Due.is("presets", x.presets(), zones);
            for (int z = 0; z < zones; z++) {
                Due.is("key " + z, x.zone(z, KEY), 50 - 5 * z);
                Due.is("cover " + z, x.zone(z, COVER), 100 - 10 * z);
            }
        }
    }

    private static void presetsAreHeld() {
        Due.sentence("presets are held to 0 .. 100");
        InkPress x = new InkPress();
        x.past(40, 90);
        x.past(50, 10);
        x.set(0, COVER, 0);
        x.set(1, COVER, 38);
        x.set(2, COVER, 52);
        x.set(3, COVER, 100);
        x.set(1, KEY, 100);
        Due.is("presets", x.presets(), 1);
        Due.is("key 0", x.zone(0, KEY), 100);
        Due.is("key 1", x.zone(1, KEY), 100);
        Due.is("key 2", x.zone(2, KEY), 0);
        Due.is("key 3", x.zone(3, KEY), 0);
    }

    private static void toldOfEach() {
        Due.sentence("told 0 to 9");
        InkPress x = Presses.ofDensity90();
        x.set(0, Presses.TARGET, 180);
        x.set(1, Presses.TARGET, 180);
        x.rule(Presses.TOLERANCE, 90);
        x.rule(Presses.TAKE, 50);
        x.set(1, COVER, 100);
        x.past(1, 1);
        x.past(2, 2);
        x.past(3, 3);
        x.steer(true);
        x.print(3);
        // ZONE 0: 900, 1881, 2862 are there, 9, 18, 28 go onto the bar.
        // ZONE 1: 900, 1431, 1701 are there, 450, 715, 850 go onto the paper, 9, 14, 17 onto the bar.
        Due.is("density 3 0", x.density(3, 0), 280);
        Due.is("density 3 1", x.density(3, 1), 170);
        int bars = 9 + 18 + 28 + 9 + 14 + 17;
        int paper = 450 + 715 + 850;
        int[] due = {3, 2, 1, 2, 6000, 6000 - paper - bars, paper, bars, 1, 3};
        for (int what = 0; what <= 9; what++) {
            Due.is("told " + what, x.told(what), due[what]);
        }
        x.steer(false);
        Due.is("told 8", x.told(8), 0);
    }

    private static void toldWhatThereIsNot() {
        Due.sentence("told: what is 0 to 9");
        InkPress x = Presses.used();
        Due.is("told -1", x.told(-1), InkPress.LOST - 2);
        Due.is("told 10", x.told(10), InkPress.LOST - 2);
    }
}
