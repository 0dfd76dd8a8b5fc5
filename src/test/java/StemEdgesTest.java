/** The edges of promises 1 to 3, sentence by sentence: a new object, diameter, defect. */
public final class StemEdgesTest {
    private static final Checks CHECKS = new Checks("edges of promises 1 to 3");

    public static void main(String[] args) {
        everyLength();
        otherLengths();
        lastPointHoldsLogsAndDefects();
        noKinds();
        noSizes();
        noHeights();
        kerfIsNone();
        diameterNumbers();
        everyDiameter();
        refusedDiameterChangesNothing();
        untoldDiameterIs50();
        defectNumbers();
        spansOfOnePointAndOfAll();
        elsewhereTheGradeIs1();
        worstCounts();
        atMost20Defects();
        refusedDefectsDoNotCount();
        defectBehindTheLast20ChangesNothing();
        CHECKS.end();
    }

    /** A stem with points 0 .. n, if n is 1 .. 80. */
    private static void everyLength() {
        for (int n = 1; n <= 80; n++) {
            StemMill mill = new StemMill(n);
            for (int point = 0; point <= n; point++) {
                CHECKS.taken("point " + point + " of " + n, mill.diameter(point, 60));
            }
            for (int point = n + 1; point <= 82; point++) {
                CHECKS.refused("point " + point + " of " + n, mill.diameter(point, 60));
            }
        }
    }

    /** Otherwise 40. */
    private static void otherLengths() {
        int[] wrong = {0, 81, 82, -1, -2, -40, -80, 100, 256, 257, 336, 65537, 1 << 30, Integer.MIN_VALUE,
            Integer.MIN_VALUE + 1, Integer.MIN_VALUE + 10, Integer.MAX_VALUE};
        for (int n : wrong) {
            CHECKS.range("point of StemMill(" + n + ")", 0, 40, point -> new StemMill(n).diameter(point, 60));
        }
    }

    private static void lastPointHoldsLogsAndDefects() {
        for (int n = 1; n <= 60; n++) {
            StemMill mill = new StemMill(n);
            mill.logKind(0, n, 0);
            CHECKS.due("a log as long as the stem of " + n, mill.byHand(1), 0);
            CHECKS.taken("a defect at the last point", mill.defect(n, n, 2));
            CHECKS.refused("a defect behind it", mill.defect(n, n + 1, 3));
            mill.byHand(1);
            CHECKS.due("grade of the log", mill.log(0, 4), 2);
            CHECKS.due("a log that begins a point too late", mill.byHand(7), StemMill.NONE);
        }
    }

    private static void noKinds() {
        StemMill mill = new StemMill(80);
        CHECKS.due("buck()", mill.buck(), 0);
        CHECKS.due("logs()", mill.logs(), 0);
        for (int code = 1; code <= 255; code++) {
            CHECKS.due("byHand(" + code + ")", mill.byHand(code), StemMill.NONE);
        }
    }

    private static void noSizes() {
        StemMill mill = Mills.withLog(900, 1);
        mill.height(0, 300);
        mill.ladder(0, 1, 100000);
        for (int size = 0; size < 6; size++) {
            CHECKS.refused("boardPrice of size " + size, mill.boardPrice(size, 1, 1));
            CHECKS.refused("fits of size " + size, mill.fits(size, 1, 900));
            mill.need(size, 1000);
        }
        CHECKS.due("saw(0)", mill.saw(0), 0);
        CHECKS.due("boards()", mill.boards(), 0);
    }

    private static void noHeights() {
        StemMill mill = Mills.withLog(900, 1);
        for (int size = 0; size < 6; size++) {
            mill.size(size, 4000, 300 + size);
            mill.boardPrice(size, 1, 10);
        }
        CHECKS.due("one board in the half circle", mill.saw(0), 10);
        CHECKS.due("cant()", mill.cant(), StemMill.NONE);
    }

    private static void kerfIsNone() {
        StemMill mill = Mills.withLog(50, 1);
        mill.size(0, 200, 300);
        CHECKS.taken("two boards of 200 in a row of 400", mill.fits(0, 2, 50));
        mill.boardPrice(0, 1, 1);
        mill.height(0, 300);
        CHECKS.due("saw(0)", mill.saw(0), 2);
        CHECKS.due("the second stands at the first", mill.board(1, 2), 200);
    }

    private static void diameterNumbers() {
        StemMill mill = new StemMill(20);
        CHECKS.range("point", 0, 20, point -> mill.diameter(point, 300));
        CHECKS.range("mm at point 0", 50, 900, mm -> mill.diameter(0, mm));
        CHECKS.range("mm at point 20", 50, 900, mm -> mill.diameter(20, mm));
        CHECKS.range("mm behind the last point", 1, 0, mm -> mill.diameter(21, mm));
        CHECKS.range("mm ahead of point 0", 1, 0, mm -> mill.diameter(-1, mm));
    }

    private static void everyDiameter() {
        StemMill mill = null;
        for (int mm = 50; mm <= 900; mm++) {
            if (mill == null || mm % 100 == 0) {
                mill = Mills.withLog(900, 1);
            }
            CHECKS.taken("diameter(1, " + mm + ")", mill.diameter(1, mm));
            mill.byHand(1);
            CHECKS.due("top of " + mm, mill.log(0, 2), mm);
        }
    }

    private static void refusedDiameterChangesNothing() {
        StemMill mill = Mills.withLog(400, 1);
        int[] wrong = {49, 0, -1, 901, -400, Integer.MIN_VALUE, Integer.MAX_VALUE};
        for (int mm : wrong) {
            CHECKS.refused("diameter(1, " + mm + ")", mill.diameter(1, mm));
            CHECKS.refused("diameter(2, 60)", mill.diameter(2, 60));
            CHECKS.refused("diameter(-1, 60)", mill.diameter(-1, 60));
            mill.byHand(1);
            CHECKS.due("top behind " + mm, mill.log(0, 2), 400);
        }
    }

    private static void untoldDiameterIs50() {
        for (int untold = 0; untold <= 5; untold++) {
            StemMill mill = new StemMill(5);
            mill.logKind(0, 5, 50);
            mill.logKind(1, 5, 51);
            for (int point = 0; point <= 5; point++) {
                if (point != untold) {
                    mill.diameter(point, 700);
                }
            }
            CHECKS.due("byHand", mill.byHand(1), 0);
            CHECKS.due("top with point " + untold + " untold", mill.log(0, 2), 50);
            CHECKS.due("a kind that asks for 51", mill.byHand(2), StemMill.NONE);
        }
    }

    private static void defectNumbers() {
        int n = 20;
        CHECKS.range("from", 0, n, from -> new StemMill(n).defect(from, n, 2));
        CHECKS.range("from, to being 7", 0, 7, from -> new StemMill(n).defect(from, 7, 2));
        CHECKS.range("to", 0, n, to -> new StemMill(n).defect(0, to, 2));
        CHECKS.range("to, from being 7", 7, n, to -> new StemMill(n).defect(7, to, 2));
        CHECKS.range("grade", 2, 3, grade -> new StemMill(n).defect(3, 4, grade));
        CHECKS.range("both", 0, n, point -> new StemMill(n).defect(point, point, 3));
    }

    private static void spansOfOnePointAndOfAll() {
        int[][] spans = {{0, 0}, {6, 6}, {3, 3}, {0, 6}, {0, 1}, {5, 6}};
        for (int[] span : spans) {
            for (int grade = 2; grade <= 3; grade++) {
                StemMill mill = new StemMill(6);
                mill.logKind(0, 1, 0);
                CHECKS.taken("defect(" + span[0] + ", " + span[1] + ")", mill.defect(span[0], span[1], grade));
                for (int first = 0; first < 6; first++) {
                    boolean touched = first + 1 >= span[0] && first <= span[1];
                    mill.byHand(1 + 6 * first);
                    CHECKS.due("grade of the log from " + first, mill.log(0, 4), touched ? grade : 1);
                }
            }
        }
    }

    private static void elsewhereTheGradeIs1() {
        StemMill mill = new StemMill(9);
        mill.logKind(0, 2, 0);
        mill.defect(3, 6, 3);
        mill.byHand(1);
        CHECKS.due("the log that ends a point ahead of the defect", mill.log(0, 4), 1);
        mill.byHand(1 + 6 * 7);
        CHECKS.due("the log that begins a point behind the defect", mill.log(0, 4), 1);
        mill.byHand(1 + 6);
        CHECKS.due("the log that ends in its first point", mill.log(0, 4), 3);
        mill.byHand(1 + 6 * 6);
        CHECKS.due("the log that begins in its last point", mill.log(0, 4), 3);
    }

    private static void worstCounts() {
        int[][] orders = {{2, 2, 2}, {2, 3, 3}, {3, 2, 3}, {3, 3, 3}};
        for (int[] order : orders) {
            StemMill mill = new StemMill(1);
            mill.logKind(0, 1, 0);
            mill.defect(0, 1, order[0]);
            CHECKS.taken("a second defect at the same points", mill.defect(0, 1, order[1]));
            mill.byHand(1);
            CHECKS.due("grades " + order[0] + ", " + order[1], mill.log(0, 4), order[2]);
        }
    }

    private static void atMost20Defects() {
        StemMill mill = new StemMill(80);
        mill.logKind(0, 1, 0);
        for (int i = 0; i < 20; i++) {
            CHECKS.taken("defect " + (i + 1), mill.defect(2 * i, 2 * i, 2 + i % 2));
        }
        for (int point = 0; point <= 80; point++) {
            CHECKS.refused("defect 21 at " + point, mill.defect(point, point, 2));
        }
        for (int i = 0; i < 20; i++) {
            mill.byHand(1 + 12 * i);
            CHECKS.due("grade at defect " + (i + 1), mill.log(0, 4), 2 + i % 2);
        }
    }

    private static void refusedDefectsDoNotCount() {
        StemMill mill = new StemMill(5);
        for (int i = 0; i < 20; i++) {
            CHECKS.refused("backwards", mill.defect(3, 2, 2));
            CHECKS.refused("behind the stem", mill.defect(5, 6, 2));
            CHECKS.refused("ahead of it", mill.defect(-1, 0, 2));
            CHECKS.refused("grade 1", mill.defect(0, 5, 1));
            CHECKS.refused("grade 4", mill.defect(0, 5, 4));
            CHECKS.taken("defect " + (i + 1) + " over the same points", mill.defect(0, 5, 2));
        }
        CHECKS.refused("defect 21", mill.defect(0, 5, 2));
    }

    private static void defectBehindTheLast20ChangesNothing() {
        StemMill mill = new StemMill(3);
        mill.logKind(0, 1, 0);
        for (int i = 0; i < 20; i++) {
            mill.defect(0, 1, 2);
        }
        CHECKS.refused("defect 21, a worse one", mill.defect(0, 3, 3));
        mill.byHand(1);
        CHECKS.due("grade where one was", mill.log(0, 4), 2);
        mill.byHand(13);
        CHECKS.due("grade where none was", mill.log(0, 4), 1);
    }
}
