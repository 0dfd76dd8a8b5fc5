/** Promises 1 to 3: a new object, diameter, defect. */
public final class StemTest {
    private static final Checks CHECKS = new Checks("promises 1 to 3");

    public static void main(String[] args) {
        lengths();
        newObject();
        diameters();
        defects();
        defectsAreCounted();
        CHECKS.end();
    }

    private static void lengths() {
        int[][] cases = {{1, 1}, {2, 2}, {79, 79}, {80, 80}, {0, 40}, {81, 40}, {-1, 40},
            {Integer.MIN_VALUE, 40}, {Integer.MAX_VALUE, 40}};
        for (int[] one : cases) {
            StemMill mill = new StemMill(one[0]);
            CHECKS.taken("last point of StemMill(" + one[0] + ")", mill.diameter(one[1], 100));
            CHECKS.refused("behind the last point of StemMill(" + one[0] + ")", mill.diameter(one[1] + 1, 100));
        }
    }

    private static void newObject() {
        StemMill mill = new StemMill(10);
        CHECKS.due("logs()", mill.logs(), 0);
        CHECKS.due("buck() without kinds", mill.buck(), 0);
        CHECKS.due("boards()", mill.boards(), 0);
        CHECKS.due("cant()", mill.cant(), StemMill.NONE);
        for (int i = 0; i < 6; i++) {
            final int at = i;
            CHECKS.due("byHand of an untold kind", mill.byHand(i + 1), StemMill.NONE);
            CHECKS.refused("priceOf an untold kind", mill.priceOf(i, 1, 1, 5));
            CHECKS.refused("boardPrice of an untold size", mill.boardPrice(i, 1, 5));
            CHECKS.refused("fits of an untold size", mill.fits(i, 1, 900));
            CHECKS.due("needNow", mill.needNow(i), 0);
            CHECKS.missing("log(" + i + ", 0)", () -> mill.log(at, 0));
        }
        CHECKS.taken("logKind", mill.logKind(0, 10, 50));
        CHECKS.taken("priceOf", mill.priceOf(0, 1, 1, 7));
        CHECKS.due("buck() with diameters 50 and grade 1 until they are told", mill.buck(), 7);
        CHECKS.due("top", mill.log(0, 2), 50);
        CHECKS.due("grade", mill.log(0, 4), 1);
        // Kerf 0 until it is told: 500 tenths, two boards of 200 side by side are 400 wide, 400 and 300 just fit.
        CHECKS.taken("size", mill.size(0, 200, 300));
        CHECKS.taken("two boards without a kerf", mill.fits(0, 2, 50));
        CHECKS.taken("boardPrice", mill.boardPrice(0, 1, 10));
        CHECKS.due("saw without heights: one board in the half circle", mill.saw(0), 10);
        CHECKS.due("cant()", mill.cant(), StemMill.NONE);
    }

    private static void diameters() {
        StemMill mill = new StemMill(4);
        mill.logKind(0, 4, 0);
        for (int point = 0; point <= 4; point++) {
            CHECKS.taken("diameter(" + point + ", 900)", mill.diameter(point, 900));
        }
        CHECKS.refused("diameter 901", mill.diameter(2, 901));
        CHECKS.refused("diameter 49", mill.diameter(2, 49));
        CHECKS.refused("diameter 0", mill.diameter(2, 0));
        CHECKS.refused("point -1", mill.diameter(-1, 100));
        CHECKS.refused("point 5", mill.diameter(5, 100));
        CHECKS.refused("least point", mill.diameter(Integer.MIN_VALUE, 100));
        mill.byHand(1);
        CHECKS.due("top of refused calls", mill.log(0, 2), 900);
        CHECKS.due("class", mill.log(0, 3), 18);
        for (int point = 0; point <= 4; point++) {
            CHECKS.taken("diameter", mill.diameter(point, 300 + point));
            mill.byHand(1);
            CHECKS.due("top is the least of all points", mill.log(0, 2), 300);
        }
        CHECKS.taken("diameter again", mill.diameter(4, 50));
        mill.byHand(1);
        CHECKS.due("top at the last point", mill.log(0, 2), 50);
        CHECKS.due("class", mill.log(0, 3), 1);
    }

    private static void defects() {
        StemMill mill = new StemMill(9);
        for (int point = 0; point <= 9; point++) {
            mill.diameter(point, 200);
        }
        mill.logKind(0, 1, 0);
        CHECKS.taken("defect(3, 5, 3)", mill.defect(3, 5, 3));
        CHECKS.taken("defect(2, 6, 2), a milder one over it", mill.defect(2, 6, 2));
        CHECKS.taken("defect(9, 9, 2)", mill.defect(9, 9, 2));
        CHECKS.refused("defect backwards", mill.defect(1, 0, 2));
        CHECKS.refused("defect from -1", mill.defect(-1, 0, 2));
        CHECKS.refused("defect to 10", mill.defect(8, 10, 2));
        CHECKS.refused("defect grade 1", mill.defect(7, 7, 1));
        CHECKS.refused("defect grade 4", mill.defect(7, 7, 4));
        CHECKS.refused("defect grade 0", mill.defect(7, 7, 0));
        int[] grades = {1, 2, 3, 3, 3, 3, 2, 1, 2};
        for (int first = 0; first < 9; first++) {
            mill.byHand(first * 6 + 1);
            CHECKS.due("grade of the log from " + first, mill.log(0, 4), grades[first]);
        }
    }

    private static void defectsAreCounted() {
        StemMill mill = new StemMill(80);
        mill.logKind(0, 1, 0);
        for (int i = 0; i < 5; i++) {
            CHECKS.refused("a refused defect does not count", mill.defect(0, 81, 2));
        }
        for (int i = 0; i < 20; i++) {
            CHECKS.taken("defect " + i, mill.defect(0, 0, 2));
        }
        CHECKS.refused("defect 20", mill.defect(0, 0, 3));
        CHECKS.refused("defect 21", mill.defect(1, 1, 3));
        mill.byHand(1);
        CHECKS.due("grade", mill.log(0, 4), 2);
    }
}
