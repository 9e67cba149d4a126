/** Promises 19 to 23 at their boundaries, a method for each sentence. */
public final class JobsEdgesTest {
    private static final int UNKNOWN = InkPress.UNKNOWN, OUTSIDE = InkPress.OUTSIDE, FULL = InkPress.FULL;
    private static final int NO = InkPress.NO, NONE = InkPress.NONE;

    public static void main(String[] args) {
        jobColourAtItsEnds();
        jobPaperAtItsEnds();
        jobFull();
        jobOutsideAheadOfFull();

        forgetOfNone();
        forgetOfAll();
        forgetLeavesWashes();

        washCostAtItsEnds();
        washColourThereIsNot();
        washOfOneColour();
        washFirstThatFits();
        washOneWay();
        washOfEachPair();
        washToItselfStaysZero();

        orderOfNoJobs();
        orderFromColourAndPaperZero();
        orderOfOtherPapers();
        orderOfTheMostCosts();
        orderLooksAhead();
        orderIsNotTheNearest();
        orderFirstByNumbers();
        orderOfAllAlike();
        orderOfSeven();

        orderAgainAfterJob();
        orderAgainAfterForget();
        orderAgainAfterWash();
        orderAgainWithoutOrder();
        orderAgainAfterRefusals();
        orderChangesNothing();

        orderAtThereIsNot();
        Due.end();
    }

    private static void jobColourAtItsEnds() {
        Due.sentence("job: COLOUR 0 to 3");
        InkPress x = new InkPress();
        Due.is("job -1 0", x.job(-1, 0), OUTSIDE);
        Due.is("job 4 0", x.job(4, 0), OUTSIDE);
        Due.is("job 0 0", x.job(0, 0), 0);
        Due.is("job 3 0", x.job(3, 0), 1);
        Due.is("forget", x.forget(), 2);
    }

    private static void jobPaperAtItsEnds() {
        Due.sentence("job: PAPER 0 to 5");
        InkPress x = new InkPress();
        Due.is("job 0 -1", x.job(0, -1), OUTSIDE);
        Due.is("job 0 6", x.job(0, 6), OUTSIDE);
        Due.is("job 4 6", x.job(4, 6), OUTSIDE);
        Due.is("job 0 0", x.job(0, 0), 0);
        Due.is("job 0 5", x.job(0, 5), 1);
        Due.is("forget", x.forget(), 2);
    }

    private static InkPress of(int... coloursAndPapers) {
        InkPress x = new InkPress();
        for (int i = 0; i + 1 < coloursAndPapers.length; i += 2) {
            Due.is("job", x.job(coloursAndPapers[i], coloursAndPapers[i + 1]), i / 2);
        }
        return x;
    }

    private static InkPress seven() {
        return of(0, 0, 1, 1, 2, 2, 3, 3, 0, 4, 1, 5, 2, 0);
    }

    private static void orderIs(InkPress x, int costs, int... jobs) {
        Due.is("order", x.order(), costs);
        orderAtIs(x, jobs);
    }

    private static void orderAtIs(InkPress x, int... jobs) {
        for (int i = 0; i < jobs.length; i++) {
            Due.is("orderAt " + i, x.orderAt(i), jobs[i]);
        }
        Due.is("orderAt behind the last", x.orderAt(jobs.length), NONE);
    }

    private static void jobFull() {
        Due.sentence("job: the 7th and the 8th");
        InkPress x = seven();
        int costs = x.order();
        Due.is("the 8th", x.job(3, 5), FULL);
        Due.is("order", x.order(), costs);
        Due.is("orderAt 7", x.orderAt(7), NONE);
        Due.is("forget", x.forget(), 7);
        Due.is("job", x.job(3, 5), 0);
    }

    private static void jobOutsideAheadOfFull() {
        Due.sentence("job: OUTSIDE ahead of FULL");
        InkPress x = seven();
        Due.is("job 4 0", x.job(4, 0), OUTSIDE);
        Due.is("job 0 -1", x.job(0, -1), OUTSIDE);
        Due.is("job 0 0", x.job(0, 0), FULL);
    }

    private static void forgetOfNone() {
        Due.sentence("forget with no JOBS");
        InkPress x = new InkPress();
        Due.is("forget", x.forget(), 0);
        Due.is("forget", x.forget(), 0);
    }

    private static void forgetOfAll() {
        Due.sentence("forget: all JOBS go, and are numbered from 0 again");
        InkPress x = new InkPress();
        for (int many = 1; many <= 7; many++) {
            for (int i = 0; i < many; i++) {
                Due.is("job", x.job(3, 5), i);
            }
            Due.is("forget", x.forget(), many);
            Due.is("order", x.order(), 0);
            Due.is("orderAt 0", x.orderAt(0), NONE);
            Due.is("forget", x.forget(), 0);
        }
    }

    private static void forgetLeavesWashes() {
        Due.sentence("forget leaves what WASHES cost");
        InkPress x = of(1, 0);
        x.wash(0, 1, 77);
        x.forget();
        x.job(1, 0);
        Due.is("order", x.order(), 77);
    }

    private static void washCostAtItsEnds() {
        Due.sentence("wash: costs 0 to 100");
        InkPress x = of(1, 0);
        Due.is("wash 0 1 -1", x.wash(0, 1, -1), OUTSIDE);
        Due.is("wash 0 1 101", x.wash(0, 1, 101), OUTSIDE);
        Due.is("order", x.order(), 10);
        Due.is("wash 0 1 0", x.wash(0, 1, 0), 10);
        Due.is("order", x.order(), 0);
        Due.is("wash 0 1 100", x.wash(0, 1, 100), 0);
        Due.is("order", x.order(), 100);
        Due.is("wash 0 1 101", x.wash(0, 1, 101), OUTSIDE);
        Due.is("wash 0 1 7", x.wash(0, 1, 7), 100);
    }

    private static void washColourThereIsNot() {
        Due.sentence("wash: COLOURS that there are not");
        InkPress x = new InkPress();
        Due.is("wash -1 0", x.wash(-1, 0, 1), UNKNOWN);
        Due.is("wash 4 0", x.wash(4, 0, 1), UNKNOWN);
        Due.is("wash 0 -1", x.wash(0, -1, 1), UNKNOWN);
        Due.is("wash 0 4", x.wash(0, 4, 1), UNKNOWN);
        Due.is("wash 1 4", x.wash(1, 4, 1), UNKNOWN);
        Due.is("wash 0 3", x.wash(0, 3, 1), 10);
        Due.is("wash 3 0", x.wash(3, 0, 1), 10);
        Due.is("wash 2 0", x.wash(2, 0, 1), 10);
    }

    private static void washOfOneColour() {
        Due.sentence("wash: NO if they are one");
        InkPress x = new InkPress();
        for (int colour = 0; colour <= 3; colour++) {
            Due.is("wash to itself", x.wash(colour, colour, 5), NO);
            Due.is("wash to itself, as it is", x.wash(colour, colour, 0), NO);
        }
    }

    private static void washFirstThatFits() {
        Due.sentence("wash: UNKNOWN ahead of OUTSIDE ahead of NO");
        InkPress x = new InkPress();
        Due.is("wash 4 4 101", x.wash(4, 4, 101), UNKNOWN);
        Due.is("wash -1 -1 5", x.wash(-1, -1, 5), UNKNOWN);
        Due.is("wash 0 4 -1", x.wash(0, 4, -1), UNKNOWN);
        Due.is("wash 2 2 101", x.wash(2, 2, 101), OUTSIDE);
        Due.is("wash 2 2 -1", x.wash(2, 2, -1), OUTSIDE);
        Due.is("wash 2 2 100", x.wash(2, 2, 100), NO);
    }

    private static void washOneWay() {
        Due.sentence("WASH from one COLOUR to another is not that back");
        InkPress x = new InkPress();
        Due.is("wash 1 2", x.wash(1, 2, 33), 10);
        Due.is("wash 2 1", x.wash(2, 1, 44), 10);
        Due.is("wash 1 2", x.wash(1, 2, 0), 33);
        Due.is("wash 2 1", x.wash(2, 1, 0), 44);
    }

    private static void washOfEachPair() {
        Due.sentence("wash changes this one alone");
        InkPress x = new InkPress();
        for (int round = 0; round < 2; round++) {
            for (int from = 0; from <= 3; from++) {
                for (int to = 0; to <= 3; to++) {
                    if (from != to) {
                        int own = 20 + 10 * from + to;
                        Due.is("wash " + from + " " + to, x.wash(from, to, own), round == 0 ? 10 : own);
                    }
                }
            }
        }
        for (int to = 1; to <= 3; to++) {
            x.job(to, 0);
            Due.is("order", x.order(), 20 + to);
            x.forget();
        }
    }

    private static void washToItselfStaysZero() {
        Due.sentence("WASH from one COLOUR to itself costs 0, as it stays");
        InkPress x = of(0, 0, 0, 0, 3, 0, 3, 0);
        x.wash(0, 0, 50);
        x.wash(3, 3, 50);
        Due.is("order", x.order(), 10);
    }

    private static void orderOfNoJobs() {
        Due.sentence("THE ORDER of no JOBS");
        InkPress x = new InkPress();
        orderIs(x, 0);
        x.wash(0, 1, 50);
        orderIs(x, 0);
    }

    private static void orderFromColourAndPaperZero() {
        Due.sentence("THE ORDER: from COLOUR 0 and PAPER 0 on");
        orderIs(of(0, 0), 0, 0);
        orderIs(of(0, 1), 5, 0);
        orderIs(of(0, 5), 5, 0);
        orderIs(of(1, 0), 10, 0);
        orderIs(of(3, 5), 15, 0);
    }

    private static void orderOfOtherPapers() {
        Due.sentence("another PAPER costs 5, whichever it is");
        orderIs(of(0, 5, 0, 1), 10, 0, 1);
        orderIs(of(0, 5, 0, 1, 0, 5), 10, 0, 2, 1);
        orderIs(of(0, 5, 0, 0, 0, 5), 5, 1, 0, 2);
    }

    private static InkPress withWashes(InkPress x, int costs) {
        for (int from = 0; from <= 3; from++) {
            for (int to = 0; to <= 3; to++) {
                if (from != to) {
                    x.wash(from, to, costs);
                }
            }
        }
        return x;
    }

    private static void orderOfTheMostCosts() {
        Due.sentence("WASHES at 100 and at 0");
        InkPress x = of(1, 1, 2, 2, 3, 3, 1, 4, 2, 5, 3, 1, 1, 2);
        orderIs(withWashes(x, 100), 325, 2, 5, 0, 3, 6, 1, 4);
        x = of(3, 0, 1, 5, 2, 0);
        orderIs(withWashes(x, 0), 5, 0, 2, 1);
    }

    private static void orderLooksAhead() {
        Due.sentence("THE ORDER has the least costs of all, though its first WASH costs more");
        InkPress x = of(1, 0, 2, 0, 3, 0);
        x.wash(0, 1, 0);
        x.wash(1, 2, 100);
        x.wash(1, 3, 100);
        x.wash(0, 2, 1);
        x.wash(2, 3, 1);
        x.wash(3, 1, 1);
        x.wash(0, 3, 100);
        x.wash(2, 1, 1);
        orderIs(x, 3, 1, 2, 0);
        x = of(1, 0, 2, 0);
        x.wash(0, 1, 100);
        x.wash(0, 2, 0);
        x.wash(2, 1, 0);
        orderIs(x, 0, 1, 0);
    }

    private static void orderIsNotTheNearest() {
        Due.sentence("THE ORDER is not that of the nearest JOB each time");
        orderIs(of(3, 2, 0, 2, 2, 2, 3, 2, 0, 1), 30, 4, 1, 0, 3, 2);
        orderIs(of(2, 1, 1, 1, 3, 0, 2, 2, 1, 1), 40, 2, 1, 4, 0, 3);
        orderIs(of(2, 2, 0, 0, 0, 1, 2, 0, 3, 2), 35, 1, 2, 3, 0, 4);
    }

    private static void orderFirstByNumbers() {
        Due.sentence("THE ORDER: of several the first by numbers");
        orderIs(of(3, 0, 1, 0, 2, 0), 30, 0, 1, 2);
        orderIs(of(1, 1, 2, 2, 1, 2, 2, 1), 35, 0, 2, 1, 3);
        orderIs(of(3, 1, 1, 0, 1, 2, 3, 0, 2, 1), 45, 1, 2, 3, 0, 4);
        orderIs(of(1, 2, 2, 1, 3, 2, 1, 1, 2, 1), 40, 1, 4, 3, 0, 2);
        orderIs(of(3, 2, 1, 2, 3, 0, 0, 1, 1, 2), 35, 3, 1, 4, 0, 2);
    }

    private static void orderOfAllAlike() {
        Due.sentence("THE ORDER of JOBS that are all alike");
        orderIs(of(1, 1, 1, 1, 1, 1, 1, 1, 1, 1, 1, 1, 1, 1), 15, 0, 1, 2, 3, 4, 5, 6);
        orderIs(of(0, 0, 0, 0), 0, 0, 1);
    }

    private static void orderOfSeven() {
        Due.sentence("THE ORDER of 7 JOBS");
        orderIs(seven(), 60, 0, 4, 1, 5, 2, 6, 3);
        orderIs(of(1, 5, 2, 4, 3, 3, 1, 3, 2, 5, 3, 4, 0, 1), 55, 6, 0, 3, 2, 5, 1, 4);
    }

    private static void orderAgainAfterJob() {
        Due.sentence("order asked for again after job");
        InkPress x = of(2, 3);
        orderIs(x, 15, 0);
        x.job(0, 3);
        orderIs(x, 15, 1, 0);
        x.job(2, 0);
        orderIs(x, 20, 1, 0, 2);
        x.job(0, 0);
        orderIs(x, 20, 3, 1, 0, 2);
    }

    private static void orderAgainAfterForget() {
        Due.sentence("order asked for again after forget");
        InkPress x = of(2, 3, 0, 3);
        orderIs(x, 15, 1, 0);
        x.forget();
        orderIs(x, 0);
        x.job(0, 1);
        x.job(0, 0);
        orderIs(x, 5, 1, 0);

        // Nothing of a longer order must be left in a shorter one, nor of that in a longer one again.
        x = seven();
        orderIs(x, 60, 0, 4, 1, 5, 2, 6, 3);
        for (int many = 1; many <= 6; many++) {
            x.forget();
            for (int i = 0; i < many; i++) {
                x.job(0, 0);
            }
            Due.is("order of " + many + " without costs", x.order(), 0);
            Due.is("orderAt of the last", x.orderAt(many - 1), many - 1);
            Due.is("orderAt behind it", x.orderAt(many), NONE);
        }
        x.forget();
        x.job(3, 0);
        x.job(1, 0);
        x.job(2, 0);
        orderIs(x, 30, 0, 1, 2);
    }

    private static void orderAgainAfterWash() {
        Due.sentence("order asked for again after wash");
        InkPress x = of(1, 0, 2, 0);
        orderIs(x, 20, 0, 1);
        x.wash(0, 1, 11);
        orderIs(x, 20, 1, 0);
        x.wash(2, 1, 11);
        orderIs(x, 21, 0, 1);
        x.wash(2, 1, 9);
        orderIs(x, 19, 1, 0);
    }

    private static void orderAgainWithoutOrder() {
        Due.sentence("orderAt alone asked for again after job, wash, forget");
        InkPress x = of(1, 0);
        orderAtIs(x, 0);
        x.job(0, 0);
        orderAtIs(x, 1, 0);
        x.job(2, 0);
        orderAtIs(x, 1, 0, 2);
        x.wash(0, 1, 50);
        orderAtIs(x, 1, 2, 0);
        x.forget();
        orderAtIs(x);
        x.job(3, 3);
        orderAtIs(x, 0);
    }

    private static void orderAgainAfterRefusals() {
        Due.sentence("order asked for again after refused calls");
        InkPress x = of(1, 0, 2, 0);
        orderIs(x, 20, 0, 1);
        x.job(4, 0);
        x.wash(0, 1, 101);
        x.wash(0, 4, 1);
        x.wash(0, 0, 1);
        orderIs(x, 20, 0, 1);
        Due.is("forget", x.forget(), 2);
    }

    private static void orderChangesNothing() {
        Due.sentence("order and orderAt change nothing");
        InkPress x = of(2, 3, 0, 3, 2, 0);
        for (int i = 0; i < 3; i++) {
            orderIs(x, 20, 1, 0, 2);
        }
        Due.is("job", x.job(0, 0), 3);
        Due.is("forget", x.forget(), 4);
    }

    private static void orderAtThereIsNot() {
        Due.sentence("orderAt: NONE ahead of the first and behind the last");
        InkPress x = new InkPress();
        Due.is("orderAt 0 of none", x.orderAt(0), NONE);
        Due.is("orderAt -1 of none", x.orderAt(-1), NONE);
        for (int many = 1; many <= 7; many++) {
            x.job(0, 0);
            Due.is("orderAt -1", x.orderAt(-1), NONE);
            Due.is("orderAt 0", x.orderAt(0), 0);
            Due.is("orderAt of the last", x.orderAt(many - 1), many - 1);
            Due.is("orderAt behind it", x.orderAt(many), NONE);
        }
        Due.is("orderAt 8", x.orderAt(8), NONE);
    }
}
