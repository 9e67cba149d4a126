/** Promises 15 to 18: mark, clear, fit, off. */
public final class MarksTest {
    private static final int OUTSIDE = InkPress.LOST + InkPress.OUTSIDE;
    private static final int UNKNOWN = InkPress.LOST + InkPress.UNKNOWN;
    private static final int NO = InkPress.LOST + InkPress.NO;

    public static void main(String[] args) {
        markRanges();
        markFull();
        clearAnswers();
        fitByHand();
        fitOfATurnBack();
        fitLowestTerms();
        fitOfFarMarks();
        fitRefused();
        offByHand();
        offRefused();
        Due.end();
    }

    private static void markRanges() {
        InkPress x = new InkPress();
        Due.is("mark", x.mark(1000, -1000, 100, -100), 1);
        Due.is("mark", x.mark(-1000, 1000, -100, 100), 2);
        Due.is("mark x", x.mark(1001, 0, 0, 0), InkPress.OUTSIDE);
        Due.is("mark x", x.mark(-1001, 0, 0, 0), InkPress.OUTSIDE);
        Due.is("mark y", x.mark(0, 1001, 0, 0), InkPress.OUTSIDE);
        Due.is("mark y", x.mark(0, -1001, 0, 0), InkPress.OUTSIDE);
        Due.is("mark dx", x.mark(0, 0, 101, 0), InkPress.OUTSIDE);
        Due.is("mark dx", x.mark(0, 0, -101, 0), InkPress.OUTSIDE);
        Due.is("mark dy", x.mark(0, 0, 0, 101), InkPress.OUTSIDE);
        Due.is("mark dy", x.mark(0, 0, 0, -101), InkPress.OUTSIDE);
        Due.is("mark huge", x.mark(Integer.MIN_VALUE, 0, 0, 0), InkPress.OUTSIDE);
        Due.is("mark huge", x.mark(0, Integer.MAX_VALUE, 0, 0), InkPress.OUTSIDE);
        Due.is("refused ones are none", x.clear(), 2);
    }

    private static void markFull() {
        InkPress x = new InkPress();
        for (int i = 1; i <= 8; i++) {
            Due.is("mark", x.mark(10 * i, 0, i, 0), i);
        }
        Due.is("mark full", x.mark(0, 500, 0, 99), InkPress.FULL);
        Due.is("mark, outside first", x.mark(0, 5000, 0, 99), InkPress.OUTSIDE);
        Due.is("stretch stays", x.fit(0, 0), 1);
        Due.is("stretch stays", x.fit(0, 1), 10);
        Due.is("mark 8 is none", x.off(8, 0), UNKNOWN);
    }

    private static void clearAnswers() {
        InkPress x = new InkPress();
        Due.is("clear", x.clear(), 0);
        x.mark(0, 0, 50, 60);
        x.mark(300, 40, -7, 9);
        x.mark(30, 400, 17, -9);
        Due.is("clear", x.clear(), 3);
        Due.is("clear", x.clear(), 0);
        Due.is("none to fit", x.fit(0, 0), NO);
        Due.is("none to tell", x.off(0, 0), UNKNOWN);
        // Nothing of the marks that went must be left in the fit.
        x.mark(0, 0, 0, 0);
        x.mark(0, 10, 0, 3);
        Due.is("stretch", x.fit(0, 0), 3);
        Due.is("stretch", x.fit(0, 1), 10);
        Due.is("turn", x.fit(1, 0), 0);
        Due.is("across", x.fit(2, 0), 0);
        Due.is("up", x.fit(3, 0), 0);
    }

    private static void fitted(InkPress x, int which, long upper, long lower) {
        Due.is("fit " + which + " upper", x.fit(which, 0), upper);
        Due.is("fit " + which + " lower", x.fit(which, 1), lower);
    }

    private static void fitByHand() {
        InkPress x = new InkPress();
        x.mark(0, 0, 1, 0);
        x.mark(4, 0, 0, 2);
        x.mark(0, 2, 3, 1);
        // Sums: x 4, y 2, dx 4, dy 3; squares 20, A = 60 - 16 - 4 = 40.
        // Stretch: 3 times 2, less 16, less 6. Turn: 3 times (8 - 6), less 12, more 8.
        fitted(x, 0, -2, 5);
        fitted(x, 1, 1, 20);
        // Across: (4 and 8 by 5, and 1 by 10) by 3. Up: (3 and 4 by 5, less 1 by 5) by 3.
        fitted(x, 2, 19, 10);
        fitted(x, 3, 6, 5);
    }

    private static void fitOfATurnBack() {
        InkPress x = new InkPress();
        x.mark(100, 0, 0, -5);
        x.mark(-100, 0, 0, 5);
        x.mark(0, 100, 5, 0);
        x.mark(0, -100, -5, 0);
        fitted(x, 0, 0, 1);
        fitted(x, 1, -1, 20);
        fitted(x, 2, 0, 1);
        fitted(x, 3, 0, 1);
    }

    private static void fitLowestTerms() {
        InkPress x = new InkPress();
        x.mark(-6, 0, -4, 10);
        x.mark(6, 0, -4, 10);
        fitted(x, 0, 0, 1);
        fitted(x, 1, 0, 1);
        fitted(x, 2, -4, 1);
        fitted(x, 3, 10, 1);
        x.clear();
        x.mark(0, 7, 0, 0);
        x.mark(0, -7, 0, 6);
        fitted(x, 0, -3, 7);
        fitted(x, 1, 0, 1);
        fitted(x, 2, 0, 1);
        fitted(x, 3, 3, 1);
    }

    private static void fitOfFarMarks() {
        InkPress x = new InkPress();
        for (int i = 0; i < 4; i++) {
            x.mark(1000, 1000, 100, 99);
        }
        for (int i = 0; i < 3; i++) {
            x.mark(999, 1000, 100, 100);
        }
        x.mark(1000, 999, -100, -100);
        // Sums: x 7997, y 7999, dx 600, dy 596; A = 8 times 15990004 less 63952009 less 63984001 = 22.
        // Stretch: 8 times (599700 and 596100) less 4798200 less 4767404 = 796.
        fitted(x, 0, 398, 11);
    }

    private static void fitRefused() {
        InkPress x = new InkPress();
        Due.is("no marks", x.fit(0, 0), NO);
        Due.is("outside first", x.fit(4, 0), OUTSIDE);
        Due.is("outside first", x.fit(0, -1), OUTSIDE);
        x.mark(3, 4, 5, 6);
        Due.is("one mark", x.fit(2, 0), NO);
        x.mark(3, 4, 7, 6);
        for (int which = 0; which < 4; which++) {
            Due.is("two at one place", x.fit(which, 0), NO);
            Due.is("two at one place", x.fit(which, 1), NO);
        }
        x.mark(3, 5, 7, 6);
        Due.is("told now", x.fit(1, 1) > 0 ? 1 : 0, 1);
        Due.is("fit 4", x.fit(4, 0), OUTSIDE);
        Due.is("fit -1", x.fit(-1, 0), OUTSIDE);
        Due.is("part 2", x.fit(0, 2), OUTSIDE);
        Due.is("part -1", x.fit(0, -1), OUTSIDE);
        Due.is("huge", x.fit(Integer.MIN_VALUE, Integer.MAX_VALUE), OUTSIDE);
    }

    private static void offByHand() {
        InkPress x = new InkPress();
        x.mark(0, 0, 1, 0);
        x.mark(4, 0, 0, 2);
        x.mark(0, 2, 3, 1);
        // As fitted above: stretch -0.4, turn 0.05, across 1.9, up 1.2.
        Due.is("off 0 across", x.off(0, 0), -900);
        Due.is("off 0 up", x.off(0, 1), -1200);
        Due.is("off 1 across", x.off(1, 0), -300);
        Due.is("off 1 up", x.off(1, 1), 600);
        Due.is("off 2 across", x.off(2, 0), 1200);
        Due.is("off 2 up", x.off(2, 1), 600);

        x.clear();
        x.mark(0, 0, 1, 0);
        x.mark(1, 0, 0, 0);
        x.mark(2, 0, 0, 1);
        // Stretch -1 by 2, turn 1 by 2, across 5 by 6, up -1 by 6: thirds and sixths are cut towards 0.
        Due.is("off cut across", x.off(0, 0), 166);
        Due.is("off cut across", x.off(1, 0), -333);
        Due.is("off cut across", x.off(2, 0), 166);
        Due.is("off cut up", x.off(0, 1), 166);
        Due.is("off cut up", x.off(1, 1), -333);
        Due.is("off cut up", x.off(2, 1), 166);
    }

    private static void offRefused() {
        InkPress x = new InkPress();
        Due.is("no mark", x.off(0, 0), UNKNOWN);
        Due.is("unknown first", x.off(0, 5), UNKNOWN);
        x.mark(1, 1, 1, 1);
        Due.is("one mark", x.off(0, 0), NO);
        Due.is("outside ahead of no", x.off(0, 2), OUTSIDE);
        x.mark(2, 1, 1, 1);
        Due.is("told", x.off(1, 1), 0);
        Due.is("off -1", x.off(-1, 0), UNKNOWN);
        Due.is("off 2", x.off(2, 0), UNKNOWN);
        Due.is("off huge", x.off(Integer.MAX_VALUE, 0), UNKNOWN);
        Due.is("off huge", x.off(Integer.MIN_VALUE, 0), UNKNOWN);
        Due.is("way 2", x.off(1, 2), OUTSIDE);
        Due.is("way -1", x.off(1, -1), OUTSIDE);
    }
}
