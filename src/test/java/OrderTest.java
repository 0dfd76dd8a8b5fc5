/** Promises 14 to 16: need, ladder, needNow. */
public final class OrderTest {
    private static final Checks CHECKS = new Checks("promises 14 to 16");

    public static void main(String[] args) {
        needs();
        ladders();
        greatestAddition();
        worthlessButNeeded();
        needsAtTheBeginning();
        needsFall();
        CHECKS.end();
    }

    private static void needs() {
        StemMill mill = new StemMill(5);
        for (int size = 0; size < 6; size++) {
            CHECKS.due("no need yet", mill.needNow(size), 0);
            CHECKS.taken("need", mill.need(size, 10 + size));
        }
        CHECKS.refused("size -1", mill.need(-1, 1));
        CHECKS.refused("size 6", mill.need(6, 1));
        CHECKS.refused("pieces -1", mill.need(0, -1));
        CHECKS.refused("pieces 1001", mill.need(0, 1001));
        for (int size = 0; size < 6; size++) {
            CHECKS.due("needNow", mill.needNow(size), 10 + size);
        }
        CHECKS.taken("the most", mill.need(5, 1000));
        CHECKS.due("needNow", mill.needNow(5), 1000);
        CHECKS.taken("the least", mill.need(5, 0));
        CHECKS.due("needNow", mill.needNow(5), 0);
        CHECKS.due("needNow(-1)", mill.needNow(-1), StemMill.NONE);
        CHECKS.due("needNow(6)", mill.needNow(6), StemMill.NONE);
        CHECKS.due("needNow(least)", mill.needNow(Integer.MIN_VALUE), StemMill.NONE);
    }

    /** One board of 10 cents in the half circle: the answer of saw is its price. */
    private static StemMill oneBoard() {
        StemMill mill = Mills.withLog(100, 1);
        mill.size(4, 400, 500);
        mill.boardPrice(4, 1, 10);
        return mill;
    }

    private static int priceAtNeed(StemMill mill, int pieces) {
        mill.need(4, pieces);
        return mill.saw(0);
    }

    private static void ladders() {
        StemMill mill = oneBoard();
        CHECKS.refused("step -1", mill.ladder(-1, 1, 1));
        CHECKS.refused("step 4", mill.ladder(4, 1, 1));
        CHECKS.refused("shortage -1", mill.ladder(0, -1, 1));
        CHECKS.refused("shortage 100001", mill.ladder(0, 100001, 1));
        CHECKS.refused("addition -1", mill.ladder(0, 1, -1));
        CHECKS.refused("addition 100001", mill.ladder(0, 1, 100001));
        CHECKS.due("no step yet", priceAtNeed(mill, 1000), 10);
        CHECKS.taken("a step", mill.ladder(0, 5, 3));
        CHECKS.due("need 4", priceAtNeed(mill, 4), 10);
        CHECKS.due("need 5", priceAtNeed(mill, 5), 13);
        CHECKS.due("need 6", priceAtNeed(mill, 6), 13);
        CHECKS.refused("refused, in place of one", mill.ladder(0, 5, 100001));
        CHECKS.due("need 6", priceAtNeed(mill, 6), 13);
        CHECKS.taken("shortage 0: no step", mill.ladder(0, 0, 100000));
        CHECKS.due("need 0", priceAtNeed(mill, 0), 10);
        CHECKS.due("need 1000", priceAtNeed(mill, 1000), 10);
        CHECKS.taken("the least step", mill.ladder(3, 1, 100000));
        CHECKS.due("need 0", priceAtNeed(mill, 0), 10);
        CHECKS.due("need 1", priceAtNeed(mill, 1), 100010);
        CHECKS.taken("a step that no need reaches", mill.ladder(3, 100000, 1));
        CHECKS.due("need 1000", priceAtNeed(mill, 1000), 10);
    }

    private static void greatestAddition() {
        StemMill mill = oneBoard();
        mill.ladder(0, 20, 5);
        mill.ladder(1, 10, 8);
        mill.ladder(2, 30, 7);
        mill.ladder(3, 40, 9);
        int[][] cases = {{9, 10}, {10, 18}, {20, 18}, {30, 18}, {39, 18}, {40, 19}, {1000, 19}};
        for (int[] one : cases) {
            CHECKS.due("need " + one[0], priceAtNeed(mill, one[0]), one[1]);
            CHECKS.due("price with the addition", mill.board(0, 3), one[1]);
        }
        mill.ladder(1, 0, 0);
        CHECKS.due("need 30 without step 1", priceAtNeed(mill, 30), 17);
    }

    private static void worthlessButNeeded() {
        StemMill mill = oneBoard();
        mill.boardPrice(4, 1, 0);
        mill.ladder(0, 2, 6);
        CHECKS.due("price 0 and no addition: not sawn", priceAtNeed(mill, 1), 0);
        CHECKS.due("boards", mill.boards(), 0);
        CHECKS.due("price 0 with an addition: sawn", priceAtNeed(mill, 2), 6);
        CHECKS.due("boards", mill.boards(), 1);
        CHECKS.due("needNow", mill.needNow(4), 1);
        StemMill untold = Mills.withLog(100, 1);
        untold.need(0, 9);
        untold.ladder(0, 1, 50);
        CHECKS.due("a size that is not told is not sawn", untold.saw(0), 0);
        CHECKS.due("needNow", untold.needNow(0), 9);
    }

    private static void needsAtTheBeginning() {
        // 1000 tenths: four boards of 100 in the half circle, all at the price of the need at the beginning.
        StemMill mill = Mills.withLog(100, 1);
        mill.size(0, 100, 600);
        mill.boardPrice(0, 1, 10);
        mill.need(0, 5);
        mill.ladder(0, 5, 7);
        CHECKS.due("all with the addition", mill.saw(0), 68);
        CHECKS.due("needNow", mill.needNow(0), 1);
        CHECKS.due("the next without it", mill.saw(0), 40);
        CHECKS.due("not below 0", mill.needNow(0), 0);
        CHECKS.due("price of the latest pattern", mill.board(3, 3), 10);
    }

    private static void needsFall() {
        // The cant of 600 has a row of 800: two boards of 400; above and below it one of 100 by 600.
        StemMill mill = Mills.withLog(100, 1);
        mill.size(1, 400, 600);
        mill.size(2, 100, 600);
        mill.boardPrice(1, 1, 100);
        mill.boardPrice(2, 1, 10);
        mill.height(0, 600);
        mill.need(0, 3);
        mill.need(1, 1000);
        mill.need(2, 5);
        CHECKS.due("saw", mill.saw(0), 220);
        CHECKS.due("a size that is not sawn", mill.needNow(0), 3);
        CHECKS.due("two in the row", mill.needNow(1), 998);
        CHECKS.due("one above and one below", mill.needNow(2), 3);
        mill.saw(0);
        mill.saw(0);
        CHECKS.due("not below 0", mill.needNow(2), 0);
    }
}
