/** The edges of promise 21, sentence by sentence: fits. */
public final class FitsEdgesTest {
    private static final Checks CHECKS = new Checks("edges of promise 21");

    public static void main(String[] args) {
        numbers();
        noSuchSizeYet();
        atMostTheCircle();
        everyCount();
        kerfsBetweenNeighbours();
        everyTop();
        numbersThatWrapAround();
        nothingElseIsAsked();
        narrowSizes();
        changesNothing();
        CHECKS.end();
    }

    private static StemMill withSize(int size, int thickness, int width) {
        StemMill mill = new StemMill(1);
        mill.size(size, thickness, width);
        return mill;
    }

    private static void numbers() {
        StemMill all = new StemMill(1);
        for (int size = 0; size < 6; size++) {
            all.size(size, 50, 50);
        }
        CHECKS.range("size", 0, 5, size -> all.fits(size, 1, 50));
        CHECKS.range("top", 50, 900, top -> all.fits(0, 1, top));
        // Of 50 by 50, 179 stand in the greatest circle: more are refused, by the rule or as no such number.
        CHECKS.range("n", 1, 179, n -> all.fits(5, n, 900));
        for (int n = 180; n <= 260; n++) {
            CHECKS.refused("n " + n, all.fits(5, n, 900));
        }
    }

    private static void noSuchSizeYet() {
        for (int told = 0; told < 6; told++) {
            StemMill mill = withSize(told, 50, 50);
            for (int size = 0; size < 6; size++) {
                CHECKS.due("fits(" + size + ", ..)", mill.fits(size, 1, 900) ? 1 : 0, size == told ? 1 : 0);
            }
        }
        StemMill refused = new StemMill(1);
        CHECKS.refused("size", refused.size(0, 50, 49));
        CHECKS.refused("a size that was refused", refused.fits(0, 1, 900));
    }

    private static void atMostTheCircle() {
        int[][] sides = {{400, 300, 50}, {300, 400, 50}, {480, 360, 60}, {600, 800, 100}, {140, 480, 50},
            {2400, 1800, 300}, {4000, 3000, 500}, {3000, 4000, 500}};
        for (int[] one : sides) {
            CHECKS.taken("just in the circle", withSize(0, one[0], one[1]).fits(0, 1, one[2]));
            CHECKS.refused("two of them", withSize(0, one[0], one[1]).fits(0, 2, one[2]));
            CHECKS.taken("two of half of it", withSize(0, one[0] / 2, one[1]).fits(0, 2, one[2]));
            if (one[0] < 4000) {
                CHECKS.refused("a tenth too thick", withSize(0, one[0] + 1, one[1]).fits(0, 1, one[2]));
            }
            if (one[1] < 4000) {
                CHECKS.refused("a tenth too wide", withSize(0, one[0], one[1] + 1).fits(0, 1, one[2]));
            }
            CHECKS.refused("a thinner log", withSize(0, one[0], one[1]).fits(0, 1, one[2] - 1));
        }
        CHECKS.refused("as wide as the circle", withSize(0, 50, 500).fits(0, 1, 50));
        CHECKS.refused("wider than the circle", withSize(0, 50, 4000).fits(0, 1, 399));
    }

    private static void everyCount() {
        StemMill mill = withSize(2, 50, 600);
        // 1000 tenths: the row has 800.
        for (int n = 1; n <= 201; n++) {
            CHECKS.due("fits(2, " + n + ", 100)", mill.fits(2, n, 100) ? 1 : 0, n <= 16 ? 1 : 0);
        }
    }

    private static void kerfsBetweenNeighbours() {
        for (int kerf = 0; kerf <= 100; kerf++) {
            for (int n = 1; n <= 5; n++) {
                int thickness = (800 - (n - 1) * kerf) / n;
                StemMill mill = withSize(1, thickness, 600);
                mill.kerf(kerf);
                CHECKS.taken(n + " with a kerf of " + kerf, mill.fits(1, n, 100));
                mill.size(1, thickness + 1, 600);
                CHECKS.refused(n + " thicker ones", mill.fits(1, n, 100));
            }
        }
    }

    private static void everyTop() {
        StemMill mill = null;
        for (int top = 0; top <= 1000; top++) {
            if (top % 400 == 0) {
                mill = withSize(3, 300, 400);
                mill.kerf(100);
            }
            // Seven of 300 and six kerfs are 2700 wide; with 400 they need 2730 tenths.
            CHECKS.due("seven in top " + top, mill.fits(3, 7, top) ? 1 : 0, top >= 273 && top <= 900 ? 1 : 0);
        }
    }

    /** Numbers whose products wrap around are not as said, too. */
    private static void numbersThatWrapAround() {
        StemMill mill = withSize(0, 4000, 4000);
        int[] counts = {201, 1 << 20, 1 << 27, 1 << 30, Integer.MAX_VALUE, Integer.MIN_VALUE, Integer.MIN_VALUE + 1,
            -1, 0, 1073742, 536871};
        for (int n : counts) {
            CHECKS.refused("n " + n, mill.fits(0, n, 900));
        }
        CHECKS.refused("200, the most", mill.fits(0, 200, 900));
        int[] tops = {901, 4634, 46341, 214748365, 429496730, 429496820, 1 << 30, Integer.MAX_VALUE, -900, -1,
            Integer.MIN_VALUE};
        for (int top : tops) {
            CHECKS.refused("top " + top, mill.fits(0, 1, top));
        }
    }

    /** By the rule alone: neither a price nor a height nor a log nor a need. */
    private static void nothingElseIsAsked() {
        StemMill mill = withSize(4, 200, 300);
        CHECKS.taken("no price, no height, no log", mill.fits(4, 2, 50));
        mill.boardPrice(4, 1, 5);
        mill.height(0, 400);
        mill.need(4, 7);
        CHECKS.taken("a price, another height, a need", mill.fits(4, 2, 50));
        CHECKS.refused("one more", mill.fits(4, 3, 50));
    }

    /** A size may be narrower than any height that can be told: the rule says all the same what stands. */
    private static void narrowSizes() {
        for (int width = 50; width <= 301; width++) {
            StemMill mill = withSize(1, 100, width);
            // 500 tenths: boards of 100 in the rest of 500 * 500.
            for (int n = 1; n <= 5; n++) {
                boolean stands = 10000 * n * n + width * width <= 250000;
                CHECKS.due(n + " of 100 by " + width, mill.fits(1, n, 50) ? 1 : 0, stands ? 1 : 0);
            }
        }
    }

    private static void changesNothing() {
        StemMill mill = Mills.withLog(50, 1);
        mill.size(0, 200, 300);
        mill.boardPrice(0, 1, 5);
        mill.height(0, 300);
        mill.need(0, 9);
        CHECKS.due("two boards", mill.saw(0), 10);
        CHECKS.taken("fits", mill.fits(0, 5, 900));
        CHECKS.refused("fits not", mill.fits(0, 5, 50));
        CHECKS.due("boards()", mill.boards(), 2);
        CHECKS.due("cant()", mill.cant(), 300);
        CHECKS.due("needNow(0)", mill.needNow(0), 7);
        CHECKS.due("logs()", mill.logs(), 1);
        CHECKS.due("top", mill.log(0, 2), 50);
    }
}
