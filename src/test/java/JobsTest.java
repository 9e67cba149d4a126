/** Promises 19 to 23: job, forget, wash, order, orderAt. */
public final class JobsTest {
    public static void main(String[] args) {
        jobAnswers();
        forgetAnswers();
        washAnswers();
        orderCosts();
        orderFirstByNumbers();
        orderByWashOneWay();
        orderIsOfNow();
        orderAtRefused();
        Due.end();
    }

    private static void jobAnswers() {
        InkPress x = new InkPress();
        Due.is("colour 4", x.job(4, 0), InkPress.OUTSIDE);
        Due.is("colour -1", x.job(-1, 0), InkPress.OUTSIDE);
        Due.is("paper 6", x.job(0, 6), InkPress.OUTSIDE);
        Due.is("paper -1", x.job(0, -1), InkPress.OUTSIDE);
        Due.is("huge", x.job(Integer.MAX_VALUE, Integer.MIN_VALUE), InkPress.OUTSIDE);
        for (int i = 0; i < 7; i++) {
            Due.is("job", x.job(i % 4, i % 6), i);
        }
        Due.is("full", x.job(0, 0), InkPress.FULL);
        Due.is("outside first", x.job(4, 0), InkPress.OUTSIDE);
        Due.is("as many as before", x.forget(), 7);
    }

    private static void forgetAnswers() {
        InkPress x = new InkPress();
        Due.is("forget", x.forget(), 0);
        x.job(3, 5);
        x.job(3, 5);
        Due.is("costs", x.order(), 15);
        Due.is("forget", x.forget(), 2);
        Due.is("forget", x.forget(), 0);
        Due.is("costs", x.order(), 0);
        Due.is("numbered anew", x.job(0, 5), 0);
        Due.is("costs", x.order(), 5);
    }

    private static void washAnswers() {
        InkPress x = new InkPress();
        Due.is("wash", x.wash(0, 1, 0), 10);
        Due.is("wash", x.wash(0, 1, 100), 0);
        Due.is("wash 101", x.wash(0, 1, 101), InkPress.OUTSIDE);
        Due.is("wash -1", x.wash(0, 1, -1), InkPress.OUTSIDE);
        Due.is("wash the other way", x.wash(1, 0, 10), 10);
        Due.is("wash", x.wash(0, 1, 1), 100);
        Due.is("from 4", x.wash(4, 0, 1), InkPress.UNKNOWN);
        Due.is("from -1", x.wash(-1, 0, 1), InkPress.UNKNOWN);
        Due.is("to 4", x.wash(0, 4, 1), InkPress.UNKNOWN);
        Due.is("to -1", x.wash(0, -1, 1), InkPress.UNKNOWN);
        Due.is("unknown first", x.wash(4, 4, 101), InkPress.UNKNOWN);
        Due.is("one and the same", x.wash(2, 2, 1), InkPress.NO);
        Due.is("outside ahead of no", x.wash(2, 2, 101), InkPress.OUTSIDE);
        x.job(0, 0);
        x.job(0, 0);
        Due.is("to itself stays 0", x.order(), 0);
    }

    private static void orderIs(InkPress x, int costs, int... jobs) {
        Due.is("order", x.order(), costs);
        for (int i = 0; i < jobs.length; i++) {
            Due.is("orderAt " + i, x.orderAt(i), jobs[i]);
        }
        Due.is("orderAt end", x.orderAt(jobs.length), InkPress.NONE);
    }

    private static void orderCosts() {
        InkPress x = new InkPress();
        orderIs(x, 0);
        x.job(2, 3);
        orderIs(x, 15, 0);
        x.job(0, 3);
        orderIs(x, 15, 1, 0);
        x.job(2, 0);
        orderIs(x, 20, 1, 0, 2);
        x.job(0, 0);
        orderIs(x, 20, 3, 1, 0, 2);
    }

    private static void orderFirstByNumbers() {
        InkPress x = new InkPress();
        for (int i = 0; i < 7; i++) {
            x.job(1, 1);
        }
        orderIs(x, 15, 0, 1, 2, 3, 4, 5, 6);
        x.forget();
        x.job(3, 0);
        x.job(1, 0);
        x.job(3, 0);
        x.job(1, 0);
        orderIs(x, 20, 0, 2, 1, 3);
    }

    private static void orderByWashOneWay() {
        InkPress x = new InkPress();
        x.wash(0, 3, 1);
        x.wash(3, 2, 2);
        x.wash(2, 1, 3);
        x.wash(0, 1, 60);
        x.wash(0, 2, 60);
        x.job(1, 0);
        x.job(2, 0);
        x.job(3, 0);
        orderIs(x, 6, 2, 1, 0);
        x.wash(0, 1, 0);
        x.wash(1, 3, 0);
        orderIs(x, 2, 0, 2, 1);
    }

    private static void orderIsOfNow() {
        InkPress x = new InkPress();
        x.job(1, 0);
        Due.is("without order()", x.orderAt(0), 0);
        x.job(0, 0);
        Due.is("by a job more", x.orderAt(0), 1);
        Due.is("by a job more", x.orderAt(1), 0);
        x.job(2, 0);
        Due.is("by three jobs", x.orderAt(1), 0);
        x.wash(0, 1, 50);
        Due.is("by another wash", x.orderAt(1), 2);
        x.forget();
        Due.is("all gone", x.orderAt(0), InkPress.NONE);
    }

    private static void orderAtRefused() {
        InkPress x = new InkPress();
        Due.is("none", x.orderAt(0), InkPress.NONE);
        x.job(1, 1);
        Due.is("-1", x.orderAt(-1), InkPress.NONE);
        Due.is("1", x.orderAt(1), InkPress.NONE);
        Due.is("7", x.orderAt(7), InkPress.NONE);
        Due.is("huge", x.orderAt(Integer.MAX_VALUE), InkPress.NONE);
        Due.is("huge", x.orderAt(Integer.MIN_VALUE), InkPress.NONE);
    }
}
