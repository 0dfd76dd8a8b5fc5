/** The edges of promises 10 to 13, sentence by sentence: size, boardPrice, height, kerf. */
public final class SizeEdgesTest {
    private static final Checks CHECKS = new Checks("edges of promises 10 to 13");

    public static void main(String[] args) {
        sizeNumbers();
        refusedSizeIsNone();
        refusedSizeChangesNothing();
        leastAndGreatestSizes();
        againPricesAre0();
        againNeedStays();
        othersKeepTheirPrices();
        priceNumbers();
        noSuchSizeYet();
        untoldPricesAre0();
        everyPriceIsItsOwn();
        refusedPriceChangesNothing();
        heightNumbers();
        everyHeightCounts();
        heightAgain();
        refusedHeightChangesNothing();
        heightsThatNoSizeHas();
        kerfNumbers();
        everyKerf();
        refusedKerfChangesNothing();
        CHECKS.end();
    }

    private static void sizeNumbers() {
        CHECKS.range("size", 0, 5, size -> new StemMill(1).size(size, 50, 4000));
        CHECKS.range("thickness", 50, 4000, thickness -> new StemMill(1).size(0, thickness, 50));
        CHECKS.range("width", 50, 4000, width -> new StemMill(1).size(5, 4000, width));
    }

    private static void refusedSizeIsNone() {
        StemMill mill = new StemMill(1);
        for (int size = 0; size < 6; size++) {
            CHECKS.refused("thickness 49", mill.size(size, 49, 100));
            CHECKS.refused("thickness 4001", mill.size(size, 4001, 100));
            CHECKS.refused("width 49", mill.size(size, 100, 49));
            CHECKS.refused("width 4001", mill.size(size, 100, 4001));
            CHECKS.refused("still no such size", mill.boardPrice(size, 1, 1));
            CHECKS.refused("and nothing fits", mill.fits(size, 1, 900));
        }
    }

    /** 500 tenths: a board of 150 by 400 just lies in the half circle. */
    private static StemMill oneBoard(int size, int grade, int cents) {
        StemMill mill = Mills.withLog(50, grade);
        mill.size(size, 150, 400);
        mill.boardPrice(size, grade, cents);
        return mill;
    }

    private static void refusedSizeChangesNothing() {
        StemMill mill = oneBoard(3, 2, 12);
        int[][] wrong = {{3, 49, 400}, {3, 4001, 400}, {3, 150, 49}, {3, 150, 4001}, {9, 100, 100}, {-3, 100, 100}};
        for (int[] one : wrong) {
            CHECKS.refused("size", mill.size(one[0], one[1], one[2]));
            CHECKS.due("its price is as it was", mill.saw(0), 12);
            CHECKS.due("so is its thickness", mill.board(0, 2), 300);
            CHECKS.taken("and its width", mill.fits(3, 2, 50));
            CHECKS.refused("400 by three of 150 is too much", mill.fits(3, 3, 50));
        }
    }

    private static void leastAndGreatestSizes() {
        StemMill least = Mills.withLog(50, 1);
        least.size(0, 50, 50);
        least.boardPrice(0, 1, 1);
        // 500 tenths: faces at 100 .. 400, a board of 50 is too wide at 500.
        CHECKS.due("four of the least", least.saw(0), 4);
        // 4000 by 4000 needs 5657 tenths in a cant; on the middle, or two in a cant, 8945.
        int[][] cases = {{565, 0, -1}, {566, 1, 4000}, {894, 1, 4000}, {895, 2, 4000}, {900, 2, 4000}};
        for (int[] one : cases) {
            StemMill mill = Mills.withLog(one[0], 1);
            mill.size(5, 4000, 4000);
            mill.boardPrice(5, 1, 1);
            mill.height(0, 4000);
            CHECKS.due("the greatest in top " + one[0], mill.saw(0), one[1]);
            CHECKS.due("cant()", mill.cant(), one[2]);
            mill.height(0, 4001);
            CHECKS.due("without a cant", mill.saw(0), one[0] < 895 ? 0 : 1);
        }
    }

    private static void againPricesAre0() {
        for (int size = 0; size < 6; size++) {
            for (int grade = 1; grade <= 3; grade++) {
                StemMill mill = oneBoard(size, grade, 7);
                CHECKS.due("saw", mill.saw(0), 7);
                CHECKS.taken("again, with the same numbers", mill.size(size, 150, 400));
                CHECKS.due("its price is 0: not sawn", mill.saw(0), 0);
                CHECKS.taken("told again", mill.boardPrice(size, grade, 8));
                CHECKS.due("saw", mill.saw(0), 8);
                CHECKS.taken("again, a tenth too thick", mill.size(size, 151, 400));
                mill.boardPrice(size, grade, 8);
                CHECKS.due("the new thickness counts", mill.saw(0), 0);
            }
        }
    }

    private static void againNeedStays() {
        StemMill mill = new StemMill(1);
        for (int size = 0; size < 6; size++) {
            mill.need(size, 1000 - size);
            CHECKS.taken("size", mill.size(size, 50, 50));
            CHECKS.due("the need from before it was told", mill.needNow(size), 1000 - size);
            CHECKS.taken("again", mill.size(size, 60, 60));
            CHECKS.due("its need stays", mill.needNow(size), 1000 - size);
        }
    }

    private static void othersKeepTheirPrices() {
        for (int again = 0; again < 6; again++) {
            StemMill mill = Mills.withLog(50, 1);
            for (int size = 0; size < 6; size++) {
                mill.size(size, 150, 400);
                mill.boardPrice(size, 1, 10 + size);
            }
            mill.size(again, 150, 400);
            CHECKS.due("the dearest that is left", mill.saw(0), again == 5 ? 14 : 15);
        }
    }

    private static void priceNumbers() {
        StemMill all = new StemMill(1);
        for (int size = 0; size < 6; size++) {
            all.size(size, 50, 50);
        }
        CHECKS.range("size", 0, 5, size -> all.boardPrice(size, 1, 1));
        CHECKS.range("grade", 1, 3, grade -> all.boardPrice(4, grade, 1));
        CHECKS.range("cents", 0, 1000000, cents -> all.boardPrice(5, 3, cents));
    }

    private static void noSuchSizeYet() {
        for (int told = 0; told < 6; told++) {
            StemMill mill = new StemMill(1);
            mill.size(told, 50, 50);
            for (int size = 0; size < 6; size++) {
                CHECKS.due("boardPrice(" + size + ", ..)", mill.boardPrice(size, 1, 1) ? 1 : 0, size == told ? 1 : 0);
            }
        }
    }

    private static void untoldPricesAre0() {
        for (int grade = 1; grade <= 3; grade++) {
            StemMill mill = Mills.withLog(50, grade);
            mill.size(1, 150, 400);
            mill.height(0, 400);
            for (int other = 1; other <= 3; other++) {
                if (other != grade) {
                    mill.boardPrice(1, other, 50);
                }
            }
            CHECKS.due("only other grades have a price", mill.saw(0), 0);
            CHECKS.due("boards()", mill.boards(), 0);
            CHECKS.due("cant()", mill.cant(), StemMill.NONE);
        }
    }

    private static void everyPriceIsItsOwn() {
        for (int grade = 1; grade <= 3; grade++) {
            for (int size = 0; size < 6; size++) {
                StemMill mill = Mills.withLog(50, grade);
                for (int other = 0; other < 6; other++) {
                    mill.size(other, other == size ? 150 : 151, 400);
                    for (int told = 1; told <= 3; told++) {
                        mill.boardPrice(other, told, 100 * other + told);
                    }
                }
                CHECKS.due("size " + size + ", grade " + grade, mill.saw(0), 100 * size + grade);
                CHECKS.due("its price", mill.board(0, 3), 100 * size + grade);
            }
        }
    }

    private static void refusedPriceChangesNothing() {
        StemMill mill = oneBoard(0, 3, 1000000);
        int[][] wrong = {{0, 3, -1}, {0, 3, 1000001}, {0, 0, 1}, {0, 4, 1}, {-1, 3, 1}, {6, 3, 1}, {1, 3, 1},
            {1, 0, 1}};
        for (int[] one : wrong) {
            CHECKS.refused("boardPrice", mill.boardPrice(one[0], one[1], one[2]));
            CHECKS.due("the price is as it was", mill.saw(0), 1000000);
        }
        CHECKS.taken("none again", mill.boardPrice(0, 3, 0));
        CHECKS.due("saw", mill.saw(0), 0);
    }

    private static void heightNumbers() {
        CHECKS.range("height", 0, 3, i -> new StemMill(1).height(i, 300));
        CHECKS.range("tenths", 300, 5000, tenths -> new StemMill(1).height(3, tenths));
    }

    /** 500 tenths: two boards of 200 by 300 in a cant, one without; so a height counts if a cant comes. */
    private static StemMill twoInCant() {
        StemMill mill = Mills.withLog(50, 1);
        mill.size(0, 200, 300);
        mill.boardPrice(0, 1, 1);
        return mill;
    }

    private static void everyHeightCounts() {
        for (int i = 0; i < 4; i++) {
            StemMill mill = twoInCant();
            CHECKS.taken("height " + i, mill.height(i, 300));
            CHECKS.due("saw", mill.saw(0), 2);
            CHECKS.due("cant()", mill.cant(), 300);
        }
        StemMill all = twoInCant();
        for (int i = 0; i < 4; i++) {
            CHECKS.due("not yet", all.saw(0), 1);
            all.height(i, 300 + 3 - i);
        }
        CHECKS.due("the last of four", all.saw(0), 2);
    }

    private static void heightAgain() {
        StemMill mill = twoInCant();
        mill.height(1, 300);
        CHECKS.taken("in place of the one before", mill.height(1, 301));
        CHECKS.due("saw", mill.saw(0), 1);
        CHECKS.due("cant()", mill.cant(), StemMill.NONE);
        CHECKS.taken("the same at two numbers", mill.height(0, 300) && mill.height(3, 300));
        CHECKS.due("is one height", mill.saw(0), 2);
        CHECKS.taken("one of them is another", mill.height(0, 5000));
        CHECKS.due("the other stays", mill.saw(0), 2);
    }

    private static void refusedHeightChangesNothing() {
        StemMill mill = twoInCant();
        mill.height(0, 300);
        int[][] wrong = {{0, 299}, {0, 5001}, {0, 0}, {0, -300}, {-1, 400}, {4, 400}};
        for (int[] one : wrong) {
            CHECKS.refused("height(" + one[0] + ", " + one[1] + ")", mill.height(one[0], one[1]));
            CHECKS.due("saw", mill.saw(0), 2);
            CHECKS.due("cant()", mill.cant(), 300);
        }
        StemMill none = twoInCant();
        none.size(1, 200, 299);
        none.boardPrice(1, 1, 1);
        CHECKS.refused("299 tenths", none.height(0, 299));
        CHECKS.due("no cant of 299", none.saw(0), 1);
    }

    private static void heightsThatNoSizeHas() {
        StemMill mill = Mills.withLog(900, 1);
        mill.size(0, 50, 4000);
        mill.boardPrice(0, 1, 1);
        mill.height(0, 4001);
        mill.height(1, 5000);
        mill.height(2, 3999);
        CHECKS.due("80 in the half circle", mill.saw(0), 80);
        CHECKS.due("cant()", mill.cant(), StemMill.NONE);
        mill.height(3, 4000);
        // The row has 8062: 161 boards; side boards from 4000 to 8062: 40 above and 40 below.
        CHECKS.due("a cant of 4000", mill.saw(0), 161 + 2 * 40);
        CHECKS.due("cant()", mill.cant(), 4000);
    }

    private static void kerfNumbers() {
        CHECKS.range("kerf", 0, 100, tenths -> new StemMill(1).kerf(tenths));
    }

    private static void everyKerf() {
        for (int kerf = 0; kerf <= 100; kerf++) {
            StemMill mill = Mills.withLog(50, 1);
            // Two boards and the kerf are 400 wide with this thickness; a tenth less for odd kerfs.
            mill.size(0, (400 - kerf) / 2, 300);
            mill.size(1, (400 - kerf) / 2 + 1, 300);
            CHECKS.taken("kerf " + kerf, mill.kerf(kerf));
            CHECKS.taken("two with a kerf of " + kerf, mill.fits(0, 2, 50));
            CHECKS.refused("two that are thicker", mill.fits(1, 2, 50));
            mill.boardPrice(0, 1, 1);
            mill.height(0, 300);
            CHECKS.due("saw", mill.saw(0), 2);
            CHECKS.due("the second board", mill.board(1, 2), (400 - kerf) / 2 + kerf);
        }
    }

    private static void refusedKerfChangesNothing() {
        int[] wrong = {-1, 101, 200, -100, Integer.MIN_VALUE, Integer.MAX_VALUE};
        int[] told = {0, 37, 100};
        for (int kerf : told) {
            StemMill mill = twoInCant();
            mill.size(0, 150, 300);
            mill.boardPrice(0, 1, 1);
            mill.height(0, 300);
            mill.kerf(kerf);
            for (int each : wrong) {
                CHECKS.refused("kerf(" + each + ")", mill.kerf(each));
                CHECKS.due("saw", mill.saw(0), 2);
                CHECKS.due("the second board", mill.board(1, 2), 150 + kerf);
            }
        }
    }
}
