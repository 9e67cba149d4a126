/** Promises 1 to 7 at their boundaries, a method for each sentence; the SHEET itself is in SheetEdgesTest. */
public final class PressEdgesTest {
    private static final int[] LEAST = {1, 1, 0, 1, 1, 1, 0, 1, 1};
    private static final int[] MOST = {20, 90, 40, 90, 200, 100, 500, 50, 20};
    private static final int[] FIRST = {10, 50, 10, 40, 50, 10, 10, 5, 2};
    private static final int[] MOST_SET = {100, 100, 1000};
    private static final int[] FIRST_SET = {0, 20, 100};
    private static final int UNKNOWN = InkPress.UNKNOWN, OUTSIDE = InkPress.OUTSIDE, NONE = InkPress.NONE;

    public static void main(String[] args) {
        firstPlaces();
        firstZones();
        firstRules();
        firstSteering();
        firstCounts();
        firstWashes();
        firstThoughAnotherIsUsed();

        fewestAndMostZones();
        fewestAndMostRollers();
        pressBothOutside();
        pressAnswersPlaces();
        pressHasTheseZonesAndRollers();
        pressIsWithoutInk();
        pressInkIsToldAnew();
        pressZonesAreAsAtFirst();
        pressHasNoSheets();
        pressStartIsAnew();
        pressRulesStay();
        pressPastJobsStay();
        pressMarksStay();
        pressJobsAndWashesStay();
        pressSteeringIsOff();

        ruleLeast();
        ruleMost();
        ruleUnknown();
        ruleAnswersWhatItWas();

        setZero();
        setMost();
        setOneMore();
        setBelowZero();
        setWhatThereIsNot();
        setZoneThereIsNot();
        setOneAlone();

        zoneThereIsNot();
        zoneWhatThereIsNot();
        zoneDensityWithoutSheet();
        zoneDensityOfTheLatest();

        inkRollerThereIsNot();
        inkZoneThereIsNot();

        printOne();
        printMost();
        printNone();
        printOneTooMany();
        printJustAllSheets();
        printOneMoreThanAllSheets();
        printStateIsOfWhatItWouldBe();
        Due.end();
    }

    private static void firstPlaces() {
        Due.sentence("4 ZONES and 3 ROLLERS at first, no ink");
        InkPress x = new InkPress();
        for (int r = 0; r < 3; r++) {
            for (int z = 0; z < 4; z++) {
                Due.is("ink " + r + " " + z, x.ink(r, z), 0);
            }
        }
        Due.is("ink 3 0", x.ink(3, 0), UNKNOWN);
        Due.is("ink 0 4", x.ink(0, 4), UNKNOWN);
        Due.is("ink 2 4", x.ink(2, 4), UNKNOWN);
        Due.is("ink 3 3", x.ink(3, 3), UNKNOWN);
    }

    private static void firstZones() {
        Due.sentence("KEY 0, COVER 20, TARGET 100 at first");
        zonesAreAsAtFirst(new InkPress(), 4);
    }

    private static void zonesAreAsAtFirst(InkPress x, int zones) {
        for (int z = 0; z < zones; z++) {
            for (int what = 0; what <= 2; what++) {
                Due.is("zone " + z + " " + what, x.zone(z, what), FIRST_SET[what]);
            }
            Due.is("zone " + z + " 3", x.zone(z, 3), 0);
        }
        Due.is("zone " + zones, x.zone(zones, 0), UNKNOWN);
    }

    private static void firstRules() {
        Due.sentence("RULES at first");
        InkPress x = new InkPress();
        for (int which = 0; which <= 8; which++) {
            Due.is("rule " + which, x.rule(which, MOST[which]), FIRST[which]);
        }
    }

    private static void firstSteering() {
        Due.sentence("STEERING is off at first");
        InkPress x = new InkPress();
        Due.is("told 8", x.told(8), 0);
        x.print(5);
        Due.is("key behind sheet 5", x.zone(0, 0), 0);
        Due.is("steer", x.steer(true), 0);
    }

    private static void firstCounts() {
        Due.sentence("no SHEETS, PAST JOBS, MARKS, JOBS at first");
        InkPress x = new InkPress();
        for (int what = 0; what <= 9; what++) {
            Due.is("told " + what, x.told(what), what == 3 ? NONE : 0);
        }
        Due.is("good 1", x.good(1), UNKNOWN);
        Due.is("density 1 0", x.density(1, 0), UNKNOWN);
        Due.is("clear", x.clear(), 0);
        Due.is("forget", x.forget(), 0);
        Due.is("order", x.order(), 0);
    }

    private static void firstWashes() {
        Due.sentence("WASH costs 10 at first, 0 from one COLOUR to itself");
        InkPress x = new InkPress();
        for (int from = 0; from < 4; from++) {
            for (int to = 0; to < 4; to++) {
                if (from != to) {
                    Due.is("wash " + from + " " + to, x.wash(from, to, 10), 10);
                }
            }
            x.job(from, 0);
            x.job(from, 0);
            Due.is("order of two of colour " + from, x.order(), from == 0 ? 0 : 10);
            x.forget();
        }
    }

    private static void firstThoughAnotherIsUsed() {
        Due.sentence("a new object is as told at first whatever was done with others");
        InkPress other = Presses.full();
        InkPress x = new InkPress();
        Due.is("told 0", x.told(0), 0);
        zonesAreAsAtFirst(x, 4);
        Due.is("rule 0", x.rule(0, 20), 10);
        Due.is("wash", x.wash(0, 2, 1), 10);
        Due.is("marks", x.clear(), 0);
        Due.is("jobs", x.forget(), 0);
        Due.is("the other's rule", other.rule(0, 13), 13);
        Due.is("the other's wash", other.wash(0, 2, 17), 17);
        Due.is("the other's sheets", other.told(0), 1000);
        Due.is("the other's marks", other.clear(), 8);
        Due.is("the other's jobs", other.forget(), 7);
    }

    private static void fewestAndMostZones() {
        Due.sentence("2 to 8 ZONES");
        InkPress x = new InkPress();
        for (int rollers = 2; rollers <= 5; rollers++) {
            Due.is("press 1 " + rollers, x.press(1, rollers), OUTSIDE);
            Due.is("press 2 " + rollers, x.press(2, rollers), 2 * rollers);
            Due.is("press 8 " + rollers, x.press(8, rollers), 8 * rollers);
            Due.is("press 9 " + rollers, x.press(9, rollers), OUTSIDE);
            Due.is("press 0 " + rollers, x.press(0, rollers), OUTSIDE);
            Due.is("press -2 " + rollers, x.press(-2, rollers), OUTSIDE);
        }
    }

    private static void fewestAndMostRollers() {
        Due.sentence("2 to 5 ROLLERS");
        InkPress x = new InkPress();
        for (int zones = 2; zones <= 8; zones++) {
            Due.is("press " + zones + " 1", x.press(zones, 1), OUTSIDE);
            Due.is("press " + zones + " 2", x.press(zones, 2), 2 * zones);
            Due.is("press " + zones + " 5", x.press(zones, 5), 5 * zones);
            Due.is("press " + zones + " 6", x.press(zones, 6), OUTSIDE);
            Due.is("press " + zones + " 0", x.press(zones, 0), OUTSIDE);
            Due.is("press " + zones + " -2", x.press(zones, -2), OUTSIDE);
        }
    }

    private static void pressBothOutside() {
        Due.sentence("press with both numbers outside");
        InkPress x = new InkPress();
        Due.is("press 1 1", x.press(1, 1), OUTSIDE);
        Due.is("press 9 6", x.press(9, 6), OUTSIDE);
        Due.is("press -4 -3", x.press(-4, -3), OUTSIDE);
        Due.is("zone 3", x.zone(3, 1), 20);
        Due.is("zone 4", x.zone(4, 1), UNKNOWN);
        Due.is("roller 2", x.ink(2, 0), 0);
        Due.is("roller 3", x.ink(3, 0), UNKNOWN);
    }

    private static void pressAnswersPlaces() {
        Due.sentence("press answers r n places");
        InkPress x = new InkPress();
        for (int n = 2; n <= 8; n++) {
            for (int r = 2; r <= 5; r++) {
                Due.is("press " + n + " " + r, x.press(n, r), n * r);
            }
        }
    }

    private static void pressHasTheseZonesAndRollers() {
        Due.sentence("ZONES and ROLLERS of the new press, numbered from 0 on");
        InkPress x = new InkPress();
        for (int n = 2; n <= 8; n++) {
            for (int r = 2; r <= 5; r++) {
                x.press(n, r);
                Due.is("last zone", x.zone(n - 1, 1), 20);
                Due.is("zone beyond", x.zone(n, 1), UNKNOWN);
                Due.is("last place", x.ink(r - 1, n - 1), 0);
                Due.is("roller beyond", x.ink(r, n - 1), UNKNOWN);
                Due.is("place beyond", x.ink(r - 1, n), UNKNOWN);
            }
        }
    }

    private static void pressIsWithoutInk() {
        Due.sentence("a press without ink, also where a smaller one had no place");
        InkPress x = new InkPress();
        x.press(8, 5);
        for (int z = 0; z < 8; z++) {
            x.set(z, 0, 100);
        }
        x.print(50);
        x.press(2, 2);
        Due.is("on", x.told(5), 0);
        x.print(1);
        Due.is("on without keys", x.told(5), 0);
        x.press(8, 5);
        for (int r = 0; r < 5; r++) {
            for (int z = 0; z < 8; z++) {
                Due.is("ink " + r + " " + z, x.ink(r, z), 0);
            }
        }
        x.print(1);
        Due.is("on without keys", x.told(5), 0);
    }

    private static void pressInkIsToldAnew() {
        Due.sentence("a press without ink: IN, ON, PAPER, BARS are 0");
        InkPress x = Presses.used();
        x.press(5, 4);
        for (int what = 4; what <= 7; what++) {
            Due.is("told " + what, x.told(what), 0);
        }
        x.set(0, 0, 10);
        x.print(1);
        Due.is("in", x.told(4), 130);
        Due.is("on, paper, bars", x.told(5) + x.told(6) + x.told(7), 130);
    }

    private static void pressZonesAreAsAtFirst() {
        Due.sentence("KEYS, COVERS, TARGETS as at first, also of ZONES that a smaller press had not");
        InkPress x = new InkPress();
        x.press(8, 2);
        for (int z = 0; z < 8; z++) {
            x.set(z, 0, 90 + z);
            x.set(z, 1, 80 + z);
            x.set(z, 2, 70 + z);
        }
        x.press(3, 2);
        zonesAreAsAtFirst(x, 3);
        x.press(8, 2);
        zonesAreAsAtFirst(x, 8);
    }

    private static void pressHasNoSheets() {
        Due.sentence("press: no SHEETS");
        InkPress x = Presses.full();
        Due.is("sheets ahead", x.told(0), 1000);
        x.press(5, 4);
        for (int what = 0; what <= 2; what++) {
            Due.is("told " + what, x.told(what), 0);
        }
        Due.is("good 1", x.good(1), UNKNOWN);
        Due.is("good 1000", x.good(1000), UNKNOWN);
        Due.is("density 1 0", x.density(1, 0), UNKNOWN);
        for (int z = 0; z < 5; z++) {
            Due.is("latest density", x.zone(z, 3), 0);
        }
        Due.is("print", x.print(200), 200);
        Due.is("density 1 0", x.density(1, 0), 0);
        Due.is("density 201 0", x.density(201, 0), UNKNOWN);
    }

    private static void pressStartIsAnew() {
        Due.sentence("press: THE START is of the SHEETS of the new press");
        InkPress x = new InkPress();
        Presses.printGood(x, 5);
        Due.is("start ahead", x.told(3), 2);
        x.press(4, 3);
        Due.is("start", x.told(3), NONE);
        x.print(1);
        Due.is("start, one good sheet", x.told(3), NONE);
        Due.is("good ones", x.told(1), 1);
        x.print(1);
        Due.is("start", x.told(3), 2);
    }

    private static void pressRulesStay() {
        Due.sentence("press: RULES stay");
        InkPress x = new InkPress();
        for (int which = 0; which <= 8; which++) {
            x.rule(which, MOST[which] - 1);
        }
        x.press(2, 5);
        for (int which = 0; which <= 8; which++) {
            Due.is("rule " + which, x.rule(which, FIRST[which]), MOST[which] - 1);
        }
    }

    private static void pressPastJobsStay() {
        Due.sentence("press: PAST JOBS stay");
        InkPress x = new InkPress();
        for (int i = 0; i < 30; i++) {
            x.past(i, 2 * i);
        }
        x.press(2, 2);
        Due.is("told 9", x.told(9), 30);
        Due.is("preset", x.preset(25), 50);
        Due.is("past", x.past(1, 1), InkPress.FULL);
        Due.is("presets", x.presets(), 2);
    }

    private static void pressMarksStay() {
        Due.sentence("press: MARKS stay");
        InkPress x = new InkPress();
        x.mark(0, 0, 1, 2);
        x.mark(10, 0, 2, 2);
        x.press(2, 2);
        Due.is("stretch", x.fit(0, 1), 10);
        Due.is("off", x.off(1, 0), 0);
        Due.is("clear", x.clear(), 2);
    }

    private static void pressJobsAndWashesStay() {
        Due.sentence("press: JOBS and what WASHES cost stay");
        InkPress x = new InkPress();
        x.job(2, 0);
        x.job(0, 0);
        x.wash(0, 2, 33);
        x.press(2, 2);
        Due.is("order", x.order(), 33);
        Due.is("orderAt 0", x.orderAt(0), 1);
        Due.is("wash", x.wash(0, 2, 10), 33);
        Due.is("forget", x.forget(), 2);
    }

    private static void pressSteeringIsOff() {
        Due.sentence("press: STEERING is off");
        InkPress x = new InkPress();
        x.steer(true);
        x.press(4, 3);
        Due.is("told 8", x.told(8), 0);
        x.print(5);
        Due.is("key behind sheet 5", x.zone(0, 0), 0);
        Due.is("steer", x.steer(true), 0);
        x.print(5);
        Due.is("key behind sheet 10", x.zone(0, 0), 5);
    }

    private static void ruleLeast() {
        Due.sentence("each RULE at its least, and one less");
        InkPress x = new InkPress();
        for (int which = 0; which <= 8; which++) {
            Due.is("rule " + which + " one less", x.rule(which, LEAST[which] - 1), InkPress.LOST - 2);
            Due.is("rule " + which + " least", x.rule(which, LEAST[which]), FIRST[which]);
            Due.is("rule " + which + " one less", x.rule(which, LEAST[which] - 1), InkPress.LOST - 2);
            Due.is("rule " + which + " again", x.rule(which, FIRST[which]), LEAST[which]);
        }
    }

    private static void ruleMost() {
        Due.sentence("each RULE at its most, and one more");
        InkPress x = new InkPress();
        for (int which = 0; which <= 8; which++) {
            Due.is("rule " + which + " one more", x.rule(which, MOST[which] + 1), InkPress.LOST - 2);
            Due.is("rule " + which + " most", x.rule(which, MOST[which]), FIRST[which]);
            Due.is("rule " + which + " one more", x.rule(which, MOST[which] + 1), InkPress.LOST - 2);
            Due.is("rule " + which + " again", x.rule(which, FIRST[which]), MOST[which]);
        }
    }

    private static void ruleUnknown() {
        Due.sentence("a RULE that there is not: LOST less 1, ahead of LOST less 2");
        InkPress x = new InkPress();
        Due.is("rule -1 1", x.rule(-1, 1), -1000001);
        Due.is("rule 9 1", x.rule(9, 1), -1000001);
        Due.is("rule -1 -1", x.rule(-1, -1), -1000001);
        Due.is("rule 9 1000", x.rule(9, 1000), -1000001);
        Due.is("rule 8 21", x.rule(8, 21), -1000002);
        Due.is("rule 0 0", x.rule(0, 0), -1000002);
    }

    private static void ruleAnswersWhatItWas() {
        Due.sentence("rule answers what it was and changes no other one");
        InkPress x = new InkPress();
        for (int which = 0; which <= 8; which++) {
            Due.is("rule " + which, x.rule(which, which + 1), FIRST[which]);
        }
        for (int which = 0; which <= 8; which++) {
            Due.is("rule " + which, x.rule(which, which + 2), which + 1);
        }
    }

    private static void setZero() {
        Due.sentence("KEY, COVER, TARGET at 0");
        InkPress x = new InkPress();
        for (int what = 0; what <= 2; what++) {
            Due.is("set 3 " + what + " 0", x.set(3, what, 0), FIRST_SET[what]);
            Due.is("zone 3 " + what, x.zone(3, what), 0);
        }
    }

    private static void setMost() {
        Due.sentence("KEY, COVER, TARGET at their most");
        InkPress x = new InkPress();
        for (int what = 0; what <= 2; what++) {
            Due.is("set 0 " + what, x.set(0, what, MOST_SET[what]), FIRST_SET[what]);
            Due.is("zone 0 " + what, x.zone(0, what), MOST_SET[what]);
        }
    }

    private static void setOneMore() {
        Due.sentence("KEY, COVER, TARGET one more than their most");
        InkPress x = new InkPress();
        for (int what = 0; what <= 2; what++) {
            Due.is("set 0 " + what, x.set(0, what, MOST_SET[what] + 1), OUTSIDE);
            Due.is("zone 0 " + what, x.zone(0, what), FIRST_SET[what]);
        }
    }

    private static void setBelowZero() {
        Due.sentence("KEY, COVER, TARGET below 0");
        InkPress x = new InkPress();
        for (int what = 0; what <= 2; what++) {
            Due.is("set 0 " + what + " -1", x.set(0, what, -1), OUTSIDE);
            Due.is("zone 0 " + what, x.zone(0, what), FIRST_SET[what]);
        }
    }

    private static void setWhatThereIsNot() {
        Due.sentence("set: what is 0 to 2");
        InkPress x = new InkPress();
        Due.is("set 0 -1 1", x.set(0, -1, 1), OUTSIDE);
        Due.is("set 0 3 1", x.set(0, 3, 1), OUTSIDE);
        Due.is("set 0 3 0", x.set(0, 3, 0), OUTSIDE);
        Due.is("density", x.zone(0, 3), 0);
    }

    private static void setZoneThereIsNot() {
        Due.sentence("set: a ZONE that there is not, ahead of OUTSIDE");
        InkPress x = new InkPress();
        for (int zones = 2; zones <= 8; zones++) {
            x.press(zones, 2);
            Due.is("set of the last zone", x.set(zones - 1, 0, 1), 0);
            Due.is("set one beyond", x.set(zones, 0, 1), UNKNOWN);
            Due.is("set -1", x.set(-1, 0, 1), UNKNOWN);
            Due.is("set beyond, what 3", x.set(zones, 3, 1), UNKNOWN);
            Due.is("set beyond, value 2000", x.set(zones, 2, 2000), UNKNOWN);
            Due.is("set -1, value -1", x.set(-1, 1, -1), UNKNOWN);
        }
    }

    private static void setOneAlone() {
        Due.sentence("set answers what it was and changes no other one");
        InkPress x = new InkPress();
        x.press(8, 2);
        for (int z = 0; z < 8; z++) {
            for (int what = 0; what <= 2; what++) {
                Due.is("set " + z + " " + what, x.set(z, what, 10 * z + what), FIRST_SET[what]);
            }
        }
        for (int z = 0; z < 8; z++) {
            for (int what = 0; what <= 2; what++) {
                Due.is("zone " + z + " " + what, x.zone(z, what), 10 * z + what);
            }
        }
    }

    private static void zoneThereIsNot() {
        Due.sentence("zone: a ZONE that there is not, ahead of OUTSIDE");
        InkPress x = new InkPress();
        for (int zones = 2; zones <= 8; zones++) {
            x.press(zones, 2);
            for (int what = 0; what <= 3; what++) {
                Due.is("zone -1 " + what, x.zone(-1, what), UNKNOWN);
                Due.is("zone " + zones + " " + what, x.zone(zones, what), UNKNOWN);
            }
            Due.is("zone -1 4", x.zone(-1, 4), UNKNOWN);
            Due.is("zone " + zones + " -1", x.zone(zones, -1), UNKNOWN);
        }
    }

    private static void zoneWhatThereIsNot() {
        Due.sentence("zone: what is 0 to 3");
        InkPress x = new InkPress();
        Due.is("zone 0 -1", x.zone(0, -1), OUTSIDE);
        Due.is("zone 3 4", x.zone(3, 4), OUTSIDE);
    }

    private static void zoneDensityWithoutSheet() {
        Due.sentence("DENSITY with no SHEET yet is 0");
        InkPress x = Presses.ofDensity90();
        Due.is("no sheet yet", x.zone(1, 3), 0);
        x.print(1);
        Due.is("sheet 1", x.zone(1, 3), 90);
        x.press(2, 2);
        Due.is("no sheet on the new press", x.zone(1, 3), 0);
    }

    private static void zoneDensityOfTheLatest() {
        Due.sentence("DENSITY on the latest SHEET");
        InkPress x = Presses.ofDensity90();
        x.set(1, 0, 0);
        x.print(2);
        // 900 less 9, and 990 of 1100: 1881.
        Due.is("sheet 2", x.zone(0, 3), 180);
        Due.is("the other zone", x.zone(1, 3), 0);
        Due.is("refused", x.print(0), OUTSIDE);
        Due.is("still sheet 2", x.zone(0, 3), 180);
    }

    private static void inkRollerThereIsNot() {
        Due.sentence("ink: a ROLLER that there is not");
        InkPress x = new InkPress();
        for (int rollers = 2; rollers <= 5; rollers++) {
            x.press(2, rollers);
            Due.is("ink -1 0", x.ink(-1, 0), UNKNOWN);
            Due.is("ink of the last roller", x.ink(rollers - 1, 0), 0);
            Due.is("ink of one beyond", x.ink(rollers, 0), UNKNOWN);
        }
    }

    private static void inkZoneThereIsNot() {
        Due.sentence("ink: a ZONE that there is not");
        InkPress x = new InkPress();
        for (int zones = 2; zones <= 8; zones++) {
            x.press(zones, 2);
            Due.is("ink 1 -1", x.ink(1, -1), UNKNOWN);
            Due.is("ink in the last zone", x.ink(0, zones - 1), 0);
            Due.is("ink one beyond", x.ink(0, zones), UNKNOWN);
            Due.is("both are not", x.ink(2, zones), UNKNOWN);
        }
    }

    private static void printOne() {
        Due.sentence("print 1");
        InkPress x = new InkPress();
        Due.is("print 1", x.print(1), 1);
        Due.is("print 1", x.print(1), 2);
        Due.is("told 0", x.told(0), 2);
    }

    private static void printMost() {
        Due.sentence("print 200");
        InkPress x = new InkPress();
        Due.is("print 200", x.print(200), 200);
        Due.is("print 200", x.print(200), 400);
        Due.is("told 0", x.told(0), 400);
    }

    private static void printNone() {
        Due.sentence("print 0 or fewer");
        InkPress x = new InkPress();
        x.set(0, 0, 1);
        Due.is("print 0", x.print(0), OUTSIDE);
        Due.is("print -1", x.print(-1), OUTSIDE);
        Due.is("print -200", x.print(-200), OUTSIDE);
        Due.is("told 0", x.told(0), 0);
        Due.is("told 4", x.told(4), 0);
    }

    private static void printOneTooMany() {
        Due.sentence("print 201");
        InkPress x = new InkPress();
        x.set(0, 0, 1);
        Due.is("print 201", x.print(201), OUTSIDE);
        Due.is("told 0", x.told(0), 0);
        Due.is("told 4", x.told(4), 0);
    }

    private static InkPress with900Sheets() {
        InkPress x = new InkPress();
        x.set(0, 0, 1);
        for (int i = 0; i < 4; i++) {
            x.print(200);
        }
        x.print(100);
        return x;
    }

    private static void printJustAllSheets() {
        Due.sentence("print: just 1000 SHEETS in all");
        InkPress x = with900Sheets();
        Due.is("print 100", x.print(100), 1000);
        Due.is("good 1000", x.good(1000), 0);
        Due.is("good 1001", x.good(1001), UNKNOWN);
        Due.is("density 1000 3", x.density(1000, 3), 0);
        Due.is("told 4", x.told(4), 10000);
    }

    private static void printOneMoreThanAllSheets() {
        Due.sentence("print: one more than 1000 SHEETS in all is refused and prints none");
        InkPress x = with900Sheets();
        int on = x.told(5);
        Due.is("print 101", x.print(101), InkPress.STATE);
        Due.is("sheets", x.told(0), 900);
        Due.is("in", x.told(4), 9000);
        Due.is("on", x.told(5), on);
        Due.is("good 901", x.good(901), UNKNOWN);
        x.print(100);
        Due.is("print 1", x.print(1), InkPress.STATE);
        Due.is("print 200", x.print(200), InkPress.STATE);
        Due.is("sheets", x.told(0), 1000);
        Due.is("in", x.told(4), 10000);
    }

    private static void printStateIsOfWhatItWouldBe() {
        Due.sentence("print: OUTSIDE ahead of STATE");
        InkPress x = with900Sheets();
        Due.is("print 201", x.print(201), OUTSIDE);
        Due.is("print 0", x.print(0), OUTSIDE);
        x.print(100);
        Due.is("print 201", x.print(201), OUTSIDE);
        Due.is("print 0", x.print(0), OUTSIDE);
        Due.is("print 1", x.print(1), InkPress.STATE);
    }
}
