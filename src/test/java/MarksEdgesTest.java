/** Promises 15 to 18 at their boundaries, a method for each sentence. */
public final class MarksEdgesTest {
    private static final int STRETCH = 0, TURN = 1, ACROSS = 2, UP = 3;
    private static final int UNKNOWN = InkPress.LOST - 1, OUTSIDE = InkPress.LOST - 2, NO = InkPress.LOST - 5;

    public static void main(String[] args) {
        markPlaceAtItsEnds();
        markOffsetAtItsEnds();
        markPlaceOneBeyond();
        markOffsetOneBeyond();
        markFull();
        markOutsideAheadOfFull();

        clearOfNone();
        clearOfAll();
        clearLeavesNothing();

        fitOfNoMarks();
        fitOfOneMark();
        fitOfSeveralAtOnePlace();
        fitOfTwoPlacesOneApart();
        fitWhichThereIsNot();
        fitPartThereIsNot();
        fitOutsideAheadOfNo();
        fitStretchAlone();
        fitTurnAlone();
        fitShiftAlone();
        fitOfAll();
        fitUpperNumberZero();
        fitUpperNumberBelowZero();
        fitInLowestTerms();
        fitOfTheLargest();

        offMarkThereIsNot();
        offWayThereIsNot();
        offNo();
        offFirstThatFits();
        offAcrossAndUp();
        offOfTheMost();
        offIsCut();
        offCutToZero();
        offOfTheLargest();
        Due.end();
    }

    private static void markPlaceAtItsEnds() {
        Due.sentence("mark: x, y from -1000 to 1000");
        InkPress x = new InkPress();
        Due.is("x -1000", x.mark(-1000, 0, 0, 0), 1);
        Due.is("x 1000", x.mark(1000, 0, 0, 0), 2);
        Due.is("y -1000", x.mark(0, -1000, 0, 0), 3);
        Due.is("y 1000", x.mark(0, 1000, 0, 0), 4);
        Due.is("clear", x.clear(), 4);
    }

    private static void markOffsetAtItsEnds() {
        Due.sentence("mark: dx, dy from -100 to 100");
        InkPress x = new InkPress();
        Due.is("dx -100", x.mark(0, 0, -100, 0), 1);
        Due.is("dx 100", x.mark(0, 0, 100, 0), 2);
        Due.is("dy -100", x.mark(0, 0, 0, -100), 3);
        Due.is("dy 100", x.mark(0, 0, 0, 100), 4);
        Due.is("all at their ends", x.mark(-1000, 1000, 100, -100), 5);
        Due.is("clear", x.clear(), 5);
    }

    private static void markPlaceOneBeyond() {
        Due.sentence("mark: x, y one beyond");
        InkPress x = new InkPress();
        Due.is("x -1001", x.mark(-1001, 0, 0, 0), InkPress.OUTSIDE);
        Due.is("x 1001", x.mark(1001, 0, 0, 0), InkPress.OUTSIDE);
        Due.is("y -1001", x.mark(0, -1001, 0, 0), InkPress.OUTSIDE);
        Due.is("y 1001", x.mark(0, 1001, 0, 0), InkPress.OUTSIDE);
        Due.is("none came", x.clear(), 0);
    }

    private static void markOffsetOneBeyond() {
        Due.sentence("mark: dx, dy one beyond");
        InkPress x = new InkPress();
        Due.is("dx -101", x.mark(0, 0, -101, 0), InkPress.OUTSIDE);
        Due.is("dx 101", x.mark(0, 0, 101, 0), InkPress.OUTSIDE);
        Due.is("dy -101", x.mark(0, 0, 0, -101), InkPress.OUTSIDE);
        Due.is("dy 101", x.mark(0, 0, 0, 101), InkPress.OUTSIDE);
        Due.is("none came", x.clear(), 0);
    }

    private static InkPress eight() {
        InkPress x = new InkPress();
        for (int i = 1; i <= 8; i++) {
            Due.is("mark", x.mark(10 * i, 0, i, 0), i);
        }
        return x;
    }

    private static void markFull() {
        Due.sentence("mark: the 8th and the 9th");
        InkPress x = eight();
        Due.is("off 7", x.off(7, 0), 0);
        Due.is("the 9th", x.mark(0, 500, 0, 99), InkPress.FULL);
        Due.is("off 8", x.off(8, 0), UNKNOWN);
        fitted(x, STRETCH, 1, 10);
        fitted(x, TURN, 0, 1);
        Due.is("clear", x.clear(), 8);
        Due.is("mark", x.mark(0, 500, 0, 99), 1);
    }

    private static void markOutsideAheadOfFull() {
        Due.sentence("mark: OUTSIDE ahead of FULL");
        InkPress x = eight();
        Due.is("x 1001", x.mark(1001, 0, 0, 0), InkPress.OUTSIDE);
        Due.is("dy -101", x.mark(0, 0, 0, -101), InkPress.OUTSIDE);
        Due.is("all within", x.mark(0, 0, 0, 0), InkPress.FULL);
    }

    private static void clearOfNone() {
        Due.sentence("clear with no MARKS");
        InkPress x = new InkPress();
        Due.is("clear", x.clear(), 0);
        Due.is("clear", x.clear(), 0);
    }

    private static void clearOfAll() {
        Due.sentence("clear: all MARKS go");
        for (int many = 1; many <= 8; many++) {
            InkPress x = new InkPress();
            for (int i = 0; i < many; i++) {
                x.mark(i, i, i, i);
            }
            Due.is("clear", x.clear(), many);
            Due.is("off 0", x.off(0, 0), UNKNOWN);
            Due.is("fit", x.fit(0, 0), NO);
            Due.is("clear", x.clear(), 0);
        }
    }

    private static void clearLeavesNothing() {
        Due.sentence("clear: nothing of the MARKS is left in the next fit");
        InkPress x = new InkPress();
        x.mark(300, -40, -7, 9);
        x.mark(30, 400, 17, -9);
        x.mark(-5, 6, 50, 60);
        x.clear();
        x.mark(0, 0, 2, 3);
        Due.is("one mark", x.fit(0, 0), NO);
        x.mark(0, 10, 2, 6);
        fitted(x, STRETCH, 3, 10);
        fitted(x, TURN, 0, 1);
        fitted(x, ACROSS, 2, 1);
        fitted(x, UP, 3, 1);
    }

    private static void fitted(InkPress x, int which, long upper, long lower) {
        Due.is("fit " + which + " upper", x.fit(which, 0), upper);
        Due.is("fit " + which + " lower", x.fit(which, 1), lower);
    }

    private static void noFit(InkPress x) {
        for (int which = 0; which <= 3; which++) {
            Due.is("fit " + which + " 0", x.fit(which, 0), NO);
            Due.is("fit " + which + " 1", x.fit(which, 1), NO);
        }
    }

    private static void fitOfNoMarks() {
        Due.sentence("fit of no MARKS: NO");
        noFit(new InkPress());
    }

    private static void fitOfOneMark() {
        Due.sentence("fit of one MARK: NO");
        int[] places = {0, 1, -1000, 1000};
        for (int place : places) {
            InkPress x = new InkPress();
            x.mark(place, -place, 5, 6);
            noFit(x);
        }
    }

    private static void fitOfSeveralAtOnePlace() {
        Due.sentence("fit of several MARKS at one place: NO");
        InkPress x = new InkPress();
        x.mark(1000, -999, 100, -100);
        for (int i = 2; i <= 8; i++) {
            x.mark(1000, -999, -i, i);
            noFit(x);
        }
    }

    private static void fitOfTwoPlacesOneApart() {
        Due.sentence("fit is told if A is above 0, though by little");
        InkPress x = new InkPress();
        x.mark(7, 7, 1, 1);
        x.mark(8, 7, 2, 1);
        fitted(x, STRETCH, 1, 1);
        fitted(x, TURN, 0, 1);
        fitted(x, ACROSS, -6, 1);
        fitted(x, UP, -6, 1);
        x = new InkPress();
        for (int i = 0; i < 7; i++) {
            x.mark(1000, 1000, 100, 100);
        }
        noFit(x);
        x.mark(1000, 999, 100, 99);
        fitted(x, STRETCH, 1, 1);
        fitted(x, TURN, 0, 1);
        fitted(x, ACROSS, -900, 1);
        fitted(x, UP, -900, 1);
    }

    private static InkPress told() {
        InkPress x = new InkPress();
        x.mark(0, 0, 1, 1);
        x.mark(5, 5, 1, 1);
        return x;
    }

    private static void fitWhichThereIsNot() {
        Due.sentence("fit: which is 0 to 3");
        InkPress x = told();
        Due.is("fit -1 0", x.fit(-1, 0), OUTSIDE);
        Due.is("fit 3 0", x.fit(3, 0), 1);
        Due.is("fit 4 0", x.fit(4, 0), OUTSIDE);
        Due.is("fit 4 1", x.fit(4, 1), OUTSIDE);
    }

    private static void fitPartThereIsNot() {
        Due.sentence("fit: part is 0 or 1");
        InkPress x = told();
        for (int which = 0; which <= 3; which++) {
            Due.is("fit " + which + " -1", x.fit(which, -1), OUTSIDE);
            Due.is("fit " + which + " 2", x.fit(which, 2), OUTSIDE);
        }
    }

    private static void fitOutsideAheadOfNo() {
        Due.sentence("fit: OUTSIDE ahead of NO");
        InkPress x = new InkPress();
        Due.is("fit 4 0", x.fit(4, 0), OUTSIDE);
        Due.is("fit -1 0", x.fit(-1, 0), OUTSIDE);
        Due.is("fit 0 2", x.fit(0, 2), OUTSIDE);
        Due.is("fit 0 -1", x.fit(0, -1), OUTSIDE);
        Due.is("fit 0 0", x.fit(0, 0), NO);
    }

    private static void fitStretchAlone() {
        Due.sentence("STRETCH alone");
        InkPress x = new InkPress();
        x.mark(200, 0, 4, 0);
        x.mark(0, 300, 0, 6);
        x.mark(-50, -100, -1, -2);
        fitted(x, STRETCH, 1, 50);
        fitted(x, TURN, 0, 1);
        fitted(x, ACROSS, 0, 1);
        fitted(x, UP, 0, 1);
    }

    private static void fitTurnAlone() {
        Due.sentence("TURN alone: across by -y, up by x");
        InkPress x = new InkPress();
        x.mark(200, 0, 0, 4);
        x.mark(0, 300, -6, 0);
        x.mark(-50, -100, 2, -1);
        fitted(x, STRETCH, 0, 1);
        fitted(x, TURN, 1, 50);
        fitted(x, ACROSS, 0, 1);
        fitted(x, UP, 0, 1);
    }

    private static void fitShiftAlone() {
        Due.sentence("SHIFT alone");
        InkPress x = new InkPress();
        x.mark(200, 10, -3, 8);
        x.mark(70, 300, -3, 8);
        x.mark(-50, -100, -3, 8);
        fitted(x, STRETCH, 0, 1);
        fitted(x, TURN, 0, 1);
        fitted(x, ACROSS, -3, 1);
        fitted(x, UP, 8, 1);
    }

    private static InkPress ofThirds() {
        InkPress x = new InkPress();
        x.mark(0, 0, 1, 0);
        x.mark(4, 0, 0, 2);
        x.mark(0, 2, 3, 1);
        return x;
    }

    private static void fitOfAll() {
        Due.sentence("STRETCH, TURN and SHIFT together");
        // Sums: x 4, y 2, dx 4, dy 3; A = 60 - 16 - 4 = 40; STRETCH -16 by 40, TURN 2 by 40.
        InkPress x = ofThirds();
        fitted(x, STRETCH, -2, 5);
        fitted(x, TURN, 1, 20);
        fitted(x, ACROSS, 19, 10);
        fitted(x, UP, 6, 5);
    }

    private static void fitUpperNumberZero() {
        Due.sentence("an upper number of 0 has 1 below it");
        InkPress x = new InkPress();
        x.mark(-6, 4, 0, 0);
        x.mark(6, 100, 0, 0);
        x.mark(9, -20, 0, 0);
        for (int which = 0; which <= 3; which++) {
            fitted(x, which, 0, 1);
        }
    }

    private static void fitUpperNumberBelowZero() {
        Due.sentence("an upper number below 0, the lower one above 0");
        InkPress x = new InkPress();
        x.mark(-30, 0, 1, 0);
        x.mark(30, 0, -3, -8);
        fitted(x, STRETCH, -1, 15);
        fitted(x, TURN, -2, 15);
        fitted(x, ACROSS, -1, 1);
        fitted(x, UP, -4, 1);
        x.mark(0, 0, -2, -4);
        fitted(x, ACROSS, -4, 3);
        fitted(x, UP, -4, 1);
    }

    private static void fitInLowestTerms() {
        Due.sentence("fit in lowest terms");
        InkPress x = new InkPress();
        x.mark(-9, 0, 0, 0);
        x.mark(9, 0, 6, 12);
        // 108 by 324, 216 by 324.
        fitted(x, STRETCH, 1, 3);
        fitted(x, TURN, 2, 3);
        fitted(x, ACROSS, 3, 1);
        fitted(x, UP, 6, 1);
        x = new InkPress();
        x.mark(0, 0, 0, 0);
        x.mark(1, 0, 0, 0);
        x.mark(1000, 0, 1, 0);
        fitted(x, STRETCH, 1999, 1998002);
        fitted(x, TURN, 0, 1);
        fitted(x, ACROSS, -999, 1998002);
        fitted(x, UP, 0, 1);
    }

    private static InkPress ofTheLargest() {
        InkPress x = new InkPress();
        x.mark(1000, 1000, 100, 100);
        x.mark(-1000, -1000, 100, -100);
        x.mark(1000, -1000, -100, 100);
        x.mark(-1000, 1000, -100, -99);
        x.mark(999, -1000, 100, 100);
        x.mark(-1000, -998, -100, -100);
        x.mark(1000, 1000, 99, -100);
        x.mark(997, 1000, -98, 100);
        return x;
    }

    private static void fitOfTheLargest() {
        Due.sentence("fit of 8 MARKS with the largest numbers");
        InkPress x = ofTheLargest();
        fitted(x, STRETCH, 806977, 61960046);
        fitted(x, TURN, 2390203, 61960046);
        fitted(x, ACROSS, -192998205, 61960046);
        fitted(x, UP, -588812387, 61960046);
        x = new InkPress();
        for (int i = 0; i < 4; i++) {
            x.mark(1000, 1000, 100, -100);
            x.mark(-1000, -1000, 100, -100);
        }
        fitted(x, STRETCH, 0, 1);
        fitted(x, TURN, 0, 1);
        fitted(x, ACROSS, 100, 1);
        fitted(x, UP, -100, 1);
    }

    private static void offMarkThereIsNot() {
        Due.sentence("off: a MARK that there is not");
        InkPress x = new InkPress();
        Due.is("off 0 of none", x.off(0, 0), UNKNOWN);
        for (int many = 1; many <= 8; many++) {
            x.mark(many, 2 * many, 0, 0);
            Due.is("off -1", x.off(-1, 0), UNKNOWN);
            Due.is("off of the last", x.off(many - 1, 1), many == 1 ? NO : 0);
            Due.is("off of one beyond", x.off(many, 0), UNKNOWN);
        }
        x.clear();
        Due.is("off 0 of none", x.off(0, 0), UNKNOWN);
    }

    private static void offWayThereIsNot() {
        Due.sentence("off: way is 0 or 1");
        InkPress x = told();
        Due.is("off 1 -1", x.off(1, -1), OUTSIDE);
        Due.is("off 1 0", x.off(1, 0), 0);
        Due.is("off 1 1", x.off(1, 1), 0);
        Due.is("off 1 2", x.off(1, 2), OUTSIDE);
    }

    private static void offNo() {
        Due.sentence("off where there is no fit: NO");
        InkPress x = new InkPress();
        for (int i = 0; i < 8; i++) {
            x.mark(-4, 9, i, 2 * i);
            Due.is("off across", x.off(i, 0), NO);
            Due.is("off up", x.off(0, 1), NO);
        }
    }

    private static void offFirstThatFits() {
        Due.sentence("off: UNKNOWN ahead of OUTSIDE ahead of NO");
        InkPress x = new InkPress();
        Due.is("off 0 2 of none", x.off(0, 2), UNKNOWN);
        x.mark(1, 1, 1, 1);
        Due.is("off 1 2", x.off(1, 2), UNKNOWN);
        Due.is("off -1 -1", x.off(-1, -1), UNKNOWN);
        Due.is("off 0 2", x.off(0, 2), OUTSIDE);
        Due.is("off 0 -1", x.off(0, -1), OUTSIDE);
        Due.is("off 0 0", x.off(0, 0), NO);
    }

    private static void offAcrossAndUp() {
        Due.sentence("off: less what STRETCH, TURN and SHIFT make of it");
        // STRETCH -0.4, TURN 0.05, SHIFT 1.9 and 1.2.
        InkPress x = ofThirds();
        int[] across = {-900, -300, 1200};
        int[] up = {-1200, 600, 600};
        for (int i = 0; i < 3; i++) {
            Due.is("off " + i + " 0", x.off(i, 0), across[i]);
            Due.is("off " + i + " 1", x.off(i, 1), up[i]);
        }
    }

    private static void offOfTheMost() {
        Due.sentence("off by as much as dx, dy may be");
        InkPress x = new InkPress();
        x.mark(0, 0, 100, -100);
        x.mark(0, 0, -100, 100);
        x.mark(1000, 0, 0, 0);
        Due.is("off 0 0", x.off(0, 0), 100000);
        Due.is("off 0 1", x.off(0, 1), -100000);
        Due.is("off 1 0", x.off(1, 0), -100000);
        Due.is("off 1 1", x.off(1, 1), 100000);
        Due.is("off 2 0", x.off(2, 0), 0);
        Due.is("off 2 1", x.off(2, 1), 0);
    }

    private static void offIsCut() {
        Due.sentence("off: thousandths are cut towards 0");
        InkPress x = new InkPress();
        x.mark(0, 0, 1, 0);
        x.mark(1, 0, 0, 0);
        x.mark(2, 0, 0, 1);
        // A sixth, less a third, a sixth, both ways.
        for (int way = 0; way <= 1; way++) {
            Due.is("off 0 " + way, x.off(0, way), 166);
            Due.is("off 1 " + way, x.off(1, way), -333);
            Due.is("off 2 " + way, x.off(2, way), 166);
        }
    }

    private static void offCutToZero() {
        Due.sentence("off: less than a thousandth is 0, above and below");
        InkPress x = new InkPress();
        x.mark(0, 0, 0, 0);
        x.mark(1, 0, 0, 0);
        x.mark(1000, 0, 1, 0);
        // 0.4999.., -0.5004.., 0.0005.. thousandths.
        for (int i = 0; i < 3; i++) {
            Due.is("off " + i + " 0", x.off(i, 0), 0);
            Due.is("off " + i + " 1", x.off(i, 1), 0);
        }
        x = new InkPress();
        x.mark(0, 0, 0, 0);
        x.mark(2, 0, 0, 0);
        x.mark(1000, 0, 1, -1);
        // 0.9999.., -1.0019.., 0.002.. thousandths across, and the same below 0 up.
        int[] across = {0, -1, 0};
        for (int i = 0; i < 3; i++) {
            Due.is("off " + i + " 0", x.off(i, 0), across[i]);
            Due.is("off " + i + " 1", x.off(i, 1), -across[i]);
        }
    }

    private static void offOfTheLargest() {
        Due.sentence("off of 8 MARKS with the largest numbers");
        InkPress x = ofTheLargest();
        int[] across = {128667, 77562, -148485, -45284, 51527, -122360, 127667, -69293};
        int[] up = {57902, -38896, 83950, -63944, 83989, -38922, -142097, 58018};
        for (int i = 0; i < 8; i++) {
            Due.is("off " + i + " 0", x.off(i, 0), across[i]);
            Due.is("off " + i + " 1", x.off(i, 1), up[i]);
        }
    }
}
