/** Promise 21: fits. */
public final class FitsTest {
    private static final Checks CHECKS = new Checks("promise 21");

    public static void main(String[] args) {
        byTheRule();
        wrongNumbers();
        topsOfLogs();
        widest();
        everyTop();
        CHECKS.end();
    }

    private static void byTheRule() {
        // 1000 tenths: 600 by 800.
        StemMill mill = new StemMill(1);
        mill.size(3, 200, 600);
        CHECKS.taken("four of 200 in 800", mill.fits(3, 4, 100));
        CHECKS.refused("five", mill.fits(3, 5, 100));
        CHECKS.refused("four in a smaller log", mill.fits(3, 4, 99));
        mill.kerf(1);
        CHECKS.refused("four and three kerfs", mill.fits(3, 4, 100));
        CHECKS.taken("three", mill.fits(3, 3, 100));
        mill.kerf(100);
        CHECKS.taken("three and two kerfs of 100 are 800", mill.fits(3, 3, 100));
        mill.size(3, 201, 600);
        CHECKS.refused("a little thicker", mill.fits(3, 3, 100));
        CHECKS.taken("one has no kerf", mill.fits(3, 1, 64));
        CHECKS.refused("one in a log that is too small", mill.fits(3, 1, 63));
        mill.size(3, 800, 600);
        CHECKS.taken("one of 800", mill.fits(3, 1, 100));
        CHECKS.due("nothing changed", mill.boards(), 0);
    }

    private static void wrongNumbers() {
        StemMill mill = new StemMill(1);
        CHECKS.refused("a size that is not told", mill.fits(0, 1, 900));
        mill.size(0, 50, 50);
        CHECKS.taken("told", mill.fits(0, 1, 900));
        CHECKS.refused("size -1", mill.fits(-1, 1, 900));
        CHECKS.refused("size 6", mill.fits(6, 1, 900));
        CHECKS.refused("n 0", mill.fits(0, 0, 900));
        CHECKS.refused("n -1", mill.fits(0, -1, 900));
        CHECKS.refused("n 201", mill.fits(0, 201, 900));
        CHECKS.refused("n great enough to wrap around", mill.fits(0, 85899346, 900));
        CHECKS.refused("top 901", mill.fits(0, 1, 901));
        CHECKS.refused("top -900", mill.fits(0, 1, -900));
        CHECKS.refused("top 0", mill.fits(0, 1, 0));
    }

    /** A log has a top of 50 .. 900, as the points of the stem have, whatever would stand in the circle. */
    private static void topsOfLogs() {
        StemMill mill = new StemMill(12);
        mill.size(2, 100, 120);
        mill.kerf(30);
        for (int top = 0; top < 50; top++) {
            CHECKS.refused("one in top " + top, mill.fits(2, 1, top));
        }
        CHECKS.taken("one in top 50", mill.fits(2, 1, 50));
        CHECKS.taken("one in top 900", mill.fits(2, 1, 900));
        CHECKS.refused("one in top 901", mill.fits(2, 1, 901));
        // 3 * 100 + 2 * 30 = 360 stands in the least log, 4 * 100 + 3 * 30 = 490 does not.
        CHECKS.taken("three in top 50", mill.fits(2, 3, 50));
        CHECKS.refused("four in top 50", mill.fits(2, 4, 50));
        CHECKS.refused("one in the greatest number", mill.fits(2, 1, Integer.MAX_VALUE));
        CHECKS.refused("one in the least number", mill.fits(2, 1, Integer.MIN_VALUE));
        CHECKS.refused("one in a top of which ten wrap around to 1004", mill.fits(2, 1, 429496830));
    }

    private static void widest() {
        StemMill mill = new StemMill(1);
        mill.size(0, 50, 50);
        // 179 boards are 8950 wide; 180 are 9000, as wide as the circle.
        CHECKS.taken("179", mill.fits(0, 179, 900));
        CHECKS.refused("180", mill.fits(0, 180, 900));
        CHECKS.refused("200", mill.fits(0, 200, 900));
        mill.size(1, 4000, 4000);
        mill.kerf(100);
        CHECKS.refused("200 of the thickest", mill.fits(1, 200, 900));
        CHECKS.taken("one", mill.fits(1, 1, 566));
        CHECKS.refused("one in a smaller log", mill.fits(1, 1, 565));
    }

    private static void everyTop() {
        Dice dice = new Dice(21);
        for (int i = 0; i < 3000; i++) {
            StemMill mill = new StemMill(1);
            int thickness = dice.between(50, 900);
            int width = dice.between(50, 4000);
            int kerf = dice.between(0, 100);
            int n = dice.between(1, 12);
            int top = dice.between(50, 900);
            mill.size(2, thickness, width);
            mill.kerf(kerf);
            long row = (long) n * thickness + (long) (n - 1) * kerf;
            boolean due = row * row + (long) width * width <= 100L * top * top;
            CHECKS.due("fits " + thickness + " by " + width + ", kerf " + kerf + ", n " + n + ", top " + top,
                mill.fits(2, n, top) ? 1 : 0, due ? 1 : 0);
        }
    }
}
