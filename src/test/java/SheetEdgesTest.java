/** What one SHEET does, at its boundaries, a method for each sentence of it. */
public final class SheetEdgesTest {
    private static final int FEED = Presses.FEED, PASS = Presses.PASS, DRIFT = Presses.DRIFT, TAKE = Presses.TAKE;
    private static final int KEY = Presses.KEY, COVER = Presses.COVER;
    private static final int IN = Presses.IN, ON = Presses.ON, PAPER = Presses.PAPER, BARS = Presses.BARS;

    public static void main(String[] args) {
        feedIsKeyTimesFeed();
        feedOfEachZone();
        passAtItsLeast();
        passAtItsMost();
        passOfFedInk();
        passRollerByRoller();
        passStaysInItsZone();
        lastRollerPassesNothingOn();
        driftOfNone();
        driftIsCut();
        driftAtItsLeast();
        driftAtTheLeftEnd();
        driftAtTheRightEnd();
        driftInTheMiddle();
        driftOfTwoZones();
        driftAsItWasAhead();
        driftOfEachRoller();
        driftBehindPass();
        driftAheadOfPaper();
        takeAtItsLeast();
        takeAtItsMost();
        takeOfCover();
        takeIsCutOnce();
        barIsCut();
        paperAndBarOfWhatWasThere();
        onlyTheLastRollerGivesInk();
        densityIsBarTimesTen();
        noInkIsLost();
        noInkIsLostOfTheMost();
        takeOfTheMost();
        sheetsAreTheSameOneByOne();
        Due.end();
    }

    /** Two ZONES, two ROLLERS, ZONE 0 alone is fed. */
    private static InkPress fed(int feed, int key, int pass) {
        InkPress x = Presses.plain(2, 2);
        x.rule(FEED, feed);
        x.rule(PASS, pass);
        x.set(0, KEY, key);
        return x;
    }

    private static void inkIs(InkPress x, int roller, int... due) {
        for (int z = 0; z < due.length; z++) {
            Due.is("ink " + roller + " " + z, x.ink(roller, z), due[z]);
        }
    }

    private static void feedIsKeyTimesFeed() {
        Due.sentence("KEY times FEED comes, both at their ends");
        int[] feeds = {1, 1, 1, 20, 20, 20};
        int[] keys = {0, 1, 100, 0, 1, 100};
        int[] comes = {0, 1, 100, 0, 20, 2000};
        for (int i = 0; i < feeds.length; i++) {
            InkPress x = fed(feeds[i], keys[i], 1);
            x.print(1);
            Due.is("in by " + feeds[i] + " " + keys[i], x.told(IN), comes[i]);
            Due.is("on by " + feeds[i] + " " + keys[i], x.told(ON), comes[i]);
            inkIs(x, 0, comes[i] - comes[i] / 100, 0);
            inkIs(x, 1, comes[i] / 100, 0);
        }
    }

    private static void feedOfEachZone() {
        Due.sentence("KEY times FEED comes onto ROLLER 0 in each ZONE");
        InkPress x = Presses.plain(8, 5);
        x.rule(PASS, 1);
        for (int z = 0; z < 8; z++) {
            x.set(z, KEY, z + 1);
        }
        x.print(1);
        inkIs(x, 0, 10, 20, 30, 40, 50, 60, 70, 80);
        inkIs(x, 1, 0, 0, 0, 0, 0, 0, 0, 0);
        x.print(1);
        // Of 100 and more 1 goes on.
        inkIs(x, 0, 20, 40, 60, 80, 99, 119, 139, 159);
        inkIs(x, 1, 0, 0, 0, 0, 1, 1, 1, 1);
        Due.is("in", x.told(IN), 720);
    }

    private static void passAtItsLeast() {
        Due.sentence("PASS 1: of 99 none goes on, of 100 one, of 199 one");
        InkPress x = fed(1, 99, 1);
        x.print(1);
        Due.is("of 99 stay", x.ink(0, 0), 99);
        Due.is("of 99 go", x.ink(1, 0), 0);
        x = fed(1, 100, 1);
        x.print(1);
        Due.is("of 100 stay", x.ink(0, 0), 99);
        Due.is("of 100 go", x.ink(1, 0), 1);
        x.print(1);
        Due.is("of 199 stay", x.ink(0, 0), 198);
        Due.is("of 199 go", x.ink(1, 0), 2);
    }

    private static void passAtItsMost() {
        Due.sentence("PASS 90: what goes on is cut");
        int[] comes = {1, 2, 9, 10, 11, 19};
        int[] goes = {0, 1, 8, 9, 9, 17};
        for (int i = 0; i < comes.length; i++) {
            InkPress x = fed(1, comes[i], 90);
            x.print(1);
            Due.is("of " + comes[i] + " stay", x.ink(0, 0), comes[i] - goes[i]);
            Due.is("of " + comes[i] + " go", x.ink(1, 0), goes[i]);
        }
    }

    private static void passOfFedInk() {
        Due.sentence("what is fed goes on in the same SHEET");
        InkPress x = fed(10, 10, 50);
        x.print(1);
        Due.is("ink 1 0", x.ink(1, 0), 50);
        x.set(0, KEY, 0);
        x.print(1);
        Due.is("ink 0 0", x.ink(0, 0), 25);
        Due.is("ink 1 0", x.ink(1, 0), 75);
    }

    private static void passRollerByRoller() {
        Due.sentence("ROLLER by ROLLER: what came goes on in the same SHEET");
        InkPress x = Presses.plain(2, 5);
        x.rule(FEED, 1);
        x.rule(PASS, 90);
        x.set(0, KEY, 10);
        x.print(1);
        // 10, then 9, 8.1, 7.2, 6.3 go on, each cut.
        int[] first = {1, 1, 1, 1, 6};
        for (int r = 0; r < 5; r++) {
            Due.is("sheet 1, ink " + r, x.ink(r, 0), first[r]);
        }
        x.print(1);
        // Of 11 9 go on, of 1 and 9 9, and so again to the last one.
        int[] second = {2, 1, 1, 1, 15};
        for (int r = 0; r < 5; r++) {
            Due.is("sheet 2, ink " + r, x.ink(r, 0), second[r]);
        }
    }

    private static void passStaysInItsZone() {
        Due.sentence("PASS moves no ink aside");
        InkPress x = Presses.plain(3, 3);
        x.set(1, KEY, 100);
        x.print(3);
        for (int r = 0; r < 3; r++) {
            Due.is("ink " + r + " 0", x.ink(r, 0), 0);
            Due.is("ink " + r + " 2", x.ink(r, 2), 0);
            Due.holds("ink " + r + " 1", x.ink(r, 1) > 0);
        }
    }

    private static void lastRollerPassesNothingOn() {
        Due.sentence("PASS is from ROLLER 0 to the last but one");
        for (int rollers = 2; rollers <= 5; rollers++) {
            InkPress x = Presses.plain(2, rollers);
            x.rule(FEED, 1);
            x.rule(PASS, 90);
            x.set(0, KEY, 10);
            x.print(1);
            // 9, 8.1, 7.2, 6.3 go on, each cut.
            int reached = 11 - rollers;
            Due.is("on the last of " + rollers, x.ink(rollers - 1, 0), reached);
            Due.is("on the last but one", x.ink(rollers - 2, 0), 1);
            x.set(0, KEY, 0);
            x.print(1);
            Due.is("stays on the last of " + rollers, x.ink(rollers - 1, 0), reached);
            Due.is("on", x.told(ON), 10);
        }
    }

    /** ROLLER 0 has on it just the KEYS, and ROLLER 1 nothing. */
    private static InkPress drifting(int drift, int... keys) {
        InkPress x = Presses.plain(keys.length, 2);
        x.rule(FEED, 1);
        x.rule(PASS, 1);
        x.rule(DRIFT, drift);
        for (int z = 0; z < keys.length; z++) {
            x.set(z, KEY, keys[z]);
        }
        return x;
    }

    private static void driftOfNone() {
        Due.sentence("DRIFT 0: none goes aside");
        InkPress x = drifting(0, 0, 99, 0);
        x.print(1);
        inkIs(x, 0, 0, 99, 0);
    }

    private static void driftIsCut() {
        Due.sentence("DRIFT 40: a fifth to either side, cut");
        int[] there = {4, 5, 9, 10, 99};
        int[] goes = {0, 1, 1, 2, 19};
        for (int i = 0; i < there.length; i++) {
            InkPress x = drifting(40, 0, there[i], 0);
            x.print(1);
            inkIs(x, 0, goes[i], there[i] - 2 * goes[i], goes[i]);
        }
    }

    private static void driftAtItsLeast() {
        Due.sentence("DRIFT 1: of 199 none, of 200 one, in each ZONE");
        for (int z = 0; z < 8; z++) {
            InkPress x = Presses.plain(8, 2);
            x.rule(FEED, 19);
            x.rule(DRIFT, 1);
            x.set(z, KEY, 21);
            x.print(1);
            // Of 399 199 go on and 200 stay; 1 of 199 goes onto the bar.
            int[] first = new int[8];
            int[] last = new int[8];
            first[z] = 200;
            last[z] = 198;
            for (int beside = z - 1; beside <= z + 1; beside += 2) {
                if (beside >= 0 && beside < 8) {
                    first[beside] = 1;
                    first[z]--;
                }
            }
            inkIs(x, 0, first);
            inkIs(x, 1, last);
        }
    }

    private static void driftAtTheLeftEnd() {
        Due.sentence("DRIFT: at the left end what would go out stays");
        InkPress x = drifting(40, 50, 0, 0);
        x.print(1);
        inkIs(x, 0, 40, 10, 0);
        x = drifting(40, 50, 0, 0, 0, 0, 0, 0, 0);
        x.print(1);
        inkIs(x, 0, 40, 10, 0, 0, 0, 0, 0, 0);
    }

    private static void driftAtTheRightEnd() {
        Due.sentence("DRIFT: at the right end what would go out stays");
        InkPress x = drifting(40, 0, 0, 50);
        x.print(1);
        inkIs(x, 0, 0, 10, 40);
        x = drifting(40, 0, 0, 0, 0, 0, 0, 0, 50);
        x.print(1);
        inkIs(x, 0, 0, 0, 0, 0, 0, 0, 10, 40);
    }

    private static void driftInTheMiddle() {
        Due.sentence("DRIFT: to the ZONE beside it on either side");
        for (int z = 1; z < 7; z++) {
            int[] keys = new int[8];
            keys[z] = 50;
            InkPress x = drifting(40, keys);
            x.print(1);
            int[] due = new int[8];
            due[z - 1] = 10;
            due[z] = 30;
            due[z + 1] = 10;
            inkIs(x, 0, due);
        }
    }

    private static void driftOfTwoZones() {
        Due.sentence("DRIFT of two ZONES, which are both ends");
        InkPress x = drifting(40, 50, 0);
        x.print(1);
        inkIs(x, 0, 40, 10);
        x = drifting(40, 0, 50);
        x.print(1);
        inkIs(x, 0, 10, 40);
        x = drifting(40, 30, 50);
        x.print(1);
        inkIs(x, 0, 34, 46);
    }

    private static void driftAsItWasAhead() {
        Due.sentence("DRIFT of each ZONE as it was ahead of this");
        InkPress x = drifting(40, 10, 20, 30, 40);
        x.print(1);
        // 2, 4, 6, 8 go to either side.
        inkIs(x, 0, 10 - 2 + 4, 20 - 8 + 2 + 6, 30 - 12 + 4 + 8, 40 - 8 + 6);
        x = drifting(40, 40, 30, 20, 10);
        x.print(1);
        inkIs(x, 0, 40 - 8 + 6, 30 - 12 + 8 + 4, 20 - 8 + 6 + 2, 10 - 2 + 4);
        x = drifting(40, 1, 54, 3, 99, 4);
        x.print(1);
        // 0, 10, 0, 19, 0 go.
        inkIs(x, 0, 11, 34, 3 + 10 + 19, 99 - 38, 4 + 19);
    }

    private static void driftOfEachRoller() {
        Due.sentence("DRIFT of each ROLLER, the first and the last too");
        InkPress x = Presses.plain(2, 5);
        x.rule(FEED, 16);
        x.rule(DRIFT, 40);
        x.set(0, KEY, 100);
        x.print(1);
        // 800, 400, 200, 100 stay and 100 come to the end; a fifth goes aside.
        inkIs(x, 0, 640, 160);
        inkIs(x, 1, 320, 80);
        inkIs(x, 2, 160, 40);
        inkIs(x, 3, 80, 20);
        inkIs(x, 4, 80, 20);
    }

    private static void driftBehindPass() {
        Due.sentence("DRIFT comes behind PASS");
        InkPress x = fed(1, 15, 50);
        x.rule(DRIFT, 40);
        x.print(1);
        // 8 stay and 7 go on; then 1 of each goes aside. The other way round it would be 6 and 2 on ROLLER 0.
        inkIs(x, 0, 7, 1);
        inkIs(x, 1, 6, 1);
    }

    private static void driftAheadOfPaper() {
        Due.sentence("DRIFT comes ahead of the paper and the bar");
        InkPress x = fed(2, 100, 50);
        x.rule(DRIFT, 40);
        x.rule(TAKE, 90);
        x.set(0, COVER, 100);
        x.print(1);
        // Of 100 20 go aside; of the 80 left 72 go onto the paper, and none onto the bar.
        inkIs(x, 1, 8, 20);
        Due.is("paper", x.told(PAPER), 72);
        Due.is("bars", x.told(BARS), 0);
    }

    /** 100 come to the last ROLLER in ZONE 0. */
    private static InkPress hundred(int take, int cover) {
        InkPress x = fed(2, 100, 50);
        x.rule(TAKE, take);
        x.set(0, COVER, cover);
        x.print(1);
        return x;
    }

    private static void paperIs(InkPress x, int paper) {
        Due.is("paper", x.told(PAPER), paper);
        Due.is("bars", x.told(BARS), 1);
        Due.is("left", x.ink(1, 0), 99 - paper);
    }

    private static void takeAtItsLeast() {
        Due.sentence("TAKE 1: of 100 one with COVER 100, none with 99");
        paperIs(hundred(1, 100), 1);
        paperIs(hundred(1, 99), 0);
    }

    private static void takeAtItsMost() {
        Due.sentence("TAKE 90");
        paperIs(hundred(90, 100), 90);
        paperIs(hundred(90, 99), 89);
        paperIs(hundred(90, 2), 1);
        paperIs(hundred(90, 1), 0);
    }

    private static void takeOfCover() {
        Due.sentence("COVER 0: none goes onto the paper, and the bar takes as much");
        paperIs(hundred(90, 0), 0);
        paperIs(hundred(1, 0), 0);
        paperIs(hundred(40, 20), 8);
    }

    private static void takeIsCutOnce() {
        Due.sentence("what is there times TAKE times COVER by 10000 is cut once");
        InkPress x = fed(14, 1, 50);
        x.rule(TAKE, 50);
        x.set(0, COVER, 60);
        x.print(1);
        // 7 times 3000 by 10000 is 2.1; half of 7 cut ahead of COVER would make 1.
        Due.is("paper", x.told(PAPER), 2);
        Due.is("left", x.ink(1, 0), 5);
        x = fed(14, 1, 50);
        x.rule(TAKE, 60);
        x.set(0, COVER, 50);
        x.print(1);
        Due.is("paper", x.told(PAPER), 2);
        Due.is("left", x.ink(1, 0), 5);
    }

    private static void barIsCut() {
        Due.sentence("what is there by 100 goes onto the bar, cut");
        int[] keys = {99, 100, 99, 100};
        int[] feeds = {2, 2, 4, 4};
        int[] bars = {0, 1, 1, 2};
        for (int i = 0; i < keys.length; i++) {
            InkPress x = fed(feeds[i], keys[i], 50);
            x.print(1);
            int there = feeds[i] * keys[i] / 2;
            Due.is("bar of " + there, x.told(BARS), bars[i]);
            Due.is("left of " + there, x.ink(1, 0), there - bars[i]);
        }
    }

    private static void paperAndBarOfWhatWasThere() {
        Due.sentence("paper and bar both of what was there");
        // Of 100: a bar of the 10 that the paper leaves would take none, a paper of the 99 left by the bar 89.
        InkPress x = hundred(90, 100);
        Due.is("paper", x.told(PAPER), 90);
        Due.is("bars", x.told(BARS), 1);
        Due.is("left", x.ink(1, 0), 9);
    }

    private static void onlyTheLastRollerGivesInk() {
        Due.sentence("paper and bar are of the last ROLLER");
        for (int rollers = 2; rollers <= 5; rollers++) {
            InkPress x = Presses.plain(2, rollers);
            x.rule(FEED, 20);
            x.rule(PASS, 1);
            x.rule(TAKE, 90);
            x.set(0, COVER, 100);
            x.set(0, KEY, 100);
            x.print(1);
            Due.is("ink 0 0", x.ink(0, 0), 1980);
            // 20 come to ROLLER 1, which of two ROLLERS is the last.
            Due.is("ink 1 0", x.ink(1, 0), rollers == 2 ? 2 : 20);
            Due.is("paper", x.told(PAPER), rollers == 2 ? 18 : 0);
        }
    }

    private static void densityIsBarTimesTen() {
        Due.sentence("DENSITY: what went onto the bar, times 10");
        int[] keys = {99, 100, 99, 100};
        int[] feeds = {2, 2, 4, 4};
        int[] densities = {0, 10, 10, 20};
        for (int i = 0; i < keys.length; i++) {
            InkPress x = fed(feeds[i], keys[i], 50);
            x.print(1);
            Due.is("density of " + feeds[i] * keys[i] / 2, x.density(1, 0), densities[i]);
            Due.is("density where none is", x.density(1, 1), 0);
        }
    }

    private static int onTheTrain(InkPress x, int zones, int rollers) {
        int sum = 0;
        for (int r = 0; r < rollers; r++) {
            for (int z = 0; z < zones; z++) {
                Due.holds("ink is not below 0", x.ink(r, z) >= 0);
                sum += x.ink(r, z);
            }
        }
        return sum;
    }

    private static void noInkIsLost() {
        Due.sentence("IN is ON, PAPER and BARS together");
        for (int zones = 2; zones <= 8; zones++) {
            for (int rollers = 2; rollers <= 5; rollers++) {
                InkPress x = new InkPress();
                x.press(zones, rollers);
                x.rule(FEED, 7);
                x.rule(PASS, 30 + zones);
                x.rule(DRIFT, 40 - rollers);
                x.rule(TAKE, 61);
                int keys = 0;
                for (int z = 0; z < zones; z++) {
                    x.set(z, KEY, 100 - 13 * z);
                    x.set(z, COVER, 14 * z);
                    keys += 100 - 13 * z;
                }
                int sheets = 0;
                for (int i = 1; i <= 6; i++) {
                    sheets = x.print(i * i);
                    Due.is("in", x.told(IN), 7 * keys * sheets);
                    Due.is("on, paper, bars", x.told(ON) + x.told(PAPER) + x.told(BARS), x.told(IN));
                }
                Due.is("on", x.told(ON), onTheTrain(x, zones, rollers));
                Due.holds("paper", x.told(PAPER) > 0);
                Due.holds("bars", x.told(BARS) > 0);
            }
        }
    }

    /** 999 SHEETS with all KEYS at 100 and FEED 20, of which little leaves. */
    private static InkPress withTheMostInk() {
        InkPress x = Presses.plain(8, 5);
        x.rule(FEED, 20);
        x.rule(PASS, 1);
        for (int z = 0; z < 8; z++) {
            x.set(z, KEY, 100);
        }
        for (int i = 0; i < 4; i++) {
            x.print(200);
        }
        x.print(199);
        return x;
    }

    private static void noInkIsLostOfTheMost() {
        Due.sentence("1000 SHEETS with all KEYS at 100 and FEED 20");
        InkPress x = withTheMostInk();
        Due.is("print", x.print(1), 1000);
        Due.is("in", x.told(IN), 16000000);
        Due.is("paper", x.told(PAPER), 0);
        Due.is("on and bars", x.told(ON) + x.told(BARS), 16000000);
        Due.is("on", x.told(ON), onTheTrain(x, 8, 5));
    }

    private static void takeOfTheMost() {
        Due.sentence("TAKE 90 and COVER 100 of as much ink as there may be");
        InkPress x = withTheMostInk();
        x.rule(PASS, 90);
        x.rule(TAKE, 90);
        x.set(7, COVER, 100);
        long comes = 2000;
        for (int r = 0; r < 4; r++) {
            comes = (x.ink(r, 7) + comes) * 90 / 100;
        }
        long there = x.ink(4, 7) + comes;
        Due.holds("an int would wrap", there * 9000 > Integer.MAX_VALUE);
        x.print(1);
        Due.is("paper", x.told(PAPER), there * 9000 / 10000);
        Due.is("density", x.density(1000, 7), there / 100 * 10);
        Due.is("left", x.ink(4, 7), there - there * 9000 / 10000 - there / 100);
        Due.is("on, paper, bars", x.told(ON) + x.told(PAPER) + x.told(BARS), 16000000);
    }

    private static void sheetsAreTheSameOneByOne() {
        Due.sentence("n SHEETS at once are the same as n one by one");
        InkPress one = Presses.used();
        InkPress all = Presses.used();
        for (int i = 0; i < 25; i++) {
            one.print(1);
        }
        all.print(25);
        for (int what = 0; what <= 9; what++) {
            Due.is("told " + what, all.told(what), one.told(what));
        }
        for (int z = 0; z < 5; z++) {
            Due.is("key " + z, all.zone(z, KEY), one.zone(z, KEY));
            for (int r = 0; r < 4; r++) {
                Due.is("ink " + r + " " + z, all.ink(r, z), one.ink(r, z));
            }
            for (int sheet = 1; sheet <= 56; sheet++) {
                Due.is("density " + sheet + " " + z, all.density(sheet, z), one.density(sheet, z));
            }
        }
    }
}
