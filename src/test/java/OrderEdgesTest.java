import java.util.NoSuchElementException;

/** The edges of promises 14 to 16, sentence by sentence: need, ladder, needNow. */
public final class OrderEdgesTest {
    private static final Checks CHECKS = new Checks("edges of promises 14 to 16");

    public static void main(String[] args) {
        needNumbers();
        needOfASizeThatIsNotTold();
        refusedNeedChangesNothing();
        needNowNumbers();
        ladderNumbers();
        everyStepCounts();
        stepAgain();
        shortageAtMostTheNeed();
        shortageNoneIsNoStep();
        shortagesThatNoNeedReaches();
        greatestAdditionOfAll();
        greatestNumbers();
        refusedStepChangesNothing();
        additionAlone();
        additionOfNothing();
        needsAreLookedAtWhenSawingBegins();
        needFallsByTheBoardsOfThePattern();
        sideBoardsOfACantFallTwice();
        notBelow0();
        nothingSawnNothingFalls();
        noSawingNothingFalls();
        CHECKS.end();
    }

    private static void needNumbers() {
        CHECKS.range("size", 0, 5, size -> new StemMill(1).need(size, 1));
        CHECKS.range("pieces", 0, 1000, pieces -> new StemMill(1).need(5, pieces));
    }

    private static void needOfASizeThatIsNotTold() {
        StemMill mill = new StemMill(1);
        for (int size = 0; size < 6; size++) {
            CHECKS.due("0 before any", mill.needNow(size), 0);
            CHECKS.taken("need", mill.need(size, 1000));
            CHECKS.due("needNow", mill.needNow(size), 1000);
        }
    }

    private static void refusedNeedChangesNothing() {
        StemMill mill = new StemMill(1);
        mill.need(2, 33);
        int[][] wrong = {{2, -1}, {2, 1001}, {-1, 5}, {6, 5}, {2, Integer.MIN_VALUE}, {Integer.MAX_VALUE, 5}};
        for (int[] one : wrong) {
            CHECKS.refused("need(" + one[0] + ", " + one[1] + ")", mill.need(one[0], one[1]));
            for (int size = 0; size < 6; size++) {
                CHECKS.due("needNow(" + size + ")", mill.needNow(size), size == 2 ? 33 : 0);
            }
        }
        CHECKS.taken("it becomes so much, not more", mill.need(2, 30));
        CHECKS.due("needNow(2)", mill.needNow(2), 30);
    }

    /** NONE when there is no such number. */
    private static void needNowNumbers() {
        StemMill mill = new StemMill(1);
        CHECKS.range("size", 0, 5, size -> mill.needNow(size) == 0);
        CHECKS.range("size that is none", 0, 5, size -> mill.needNow(size) != StemMill.NONE);
    }

    private static void ladderNumbers() {
        CHECKS.range("step", 0, 3, step -> new StemMill(1).ladder(step, 1, 1));
        CHECKS.range("shortage", 0, 100000, shortage -> new StemMill(1).ladder(0, shortage, 100000));
        CHECKS.range("addition", 0, 100000, addition -> new StemMill(1).ladder(3, 100000, addition));
    }

    /** One board of 10 cents in the half circle: the answer of saw is its price. */
    private static StemMill oneBoard() {
        StemMill mill = Mills.withLog(50, 1);
        mill.size(4, 150, 400);
        mill.boardPrice(4, 1, 10);
        return mill;
    }

    private static void price(String name, StemMill mill, int pieces, int due) {
        mill.need(4, pieces);
        CHECKS.due(name + ", need " + pieces, mill.saw(0), due);
        CHECKS.due(name + ", its price", mill.board(0, 3), due);
    }

    private static void everyStepCounts() {
        for (int step = 0; step < 4; step++) {
            StemMill mill = oneBoard();
            CHECKS.taken("step " + step, mill.ladder(step, 7, 5));
            price("step " + step, mill, 6, 10);
            price("step " + step, mill, 7, 15);
            price("step " + step, mill, 1000, 15);
        }
    }

    private static void stepAgain() {
        StemMill mill = oneBoard();
        mill.ladder(2, 7, 5);
        CHECKS.taken("in place of the one before", mill.ladder(2, 9, 4));
        price("again", mill, 8, 10);
        price("again", mill, 9, 14);
    }

    private static void shortageAtMostTheNeed() {
        int[] shortages = {1, 2, 500, 999, 1000};
        for (int shortage : shortages) {
            StemMill mill = oneBoard();
            mill.ladder(1, shortage, 6);
            price("shortage " + shortage, mill, shortage - 1, 10);
            price("shortage " + shortage, mill, shortage, 16);
            price("shortage " + shortage, mill, 1000, 16);
            price("shortage " + shortage, mill, 0, 10);
        }
    }

    private static void shortageNoneIsNoStep() {
        StemMill mill = oneBoard();
        for (int step = 0; step < 4; step++) {
            CHECKS.taken("shortage 0", mill.ladder(step, 0, 100000));
        }
        price("no steps", mill, 0, 10);
        price("no steps", mill, 1, 10);
        price("no steps", mill, 1000, 10);
        mill.ladder(3, 1, 2);
        price("one step", mill, 1, 12);
        CHECKS.taken("no step again", mill.ladder(3, 0, 2));
        price("no steps again", mill, 1, 10);
    }

    private static void shortagesThatNoNeedReaches() {
        StemMill mill = oneBoard();
        mill.ladder(0, 1001, 7);
        mill.ladder(1, 100000, 8);
        price("out of reach", mill, 1000, 10);
    }

    private static void greatestAdditionOfAll() {
        int[][] orders = {{0, 1, 2, 3}, {3, 2, 1, 0}, {1, 3, 0, 2}};
        for (int[] order : orders) {
            StemMill mill = oneBoard();
            mill.ladder(order[0], 5, 20);
            mill.ladder(order[1], 10, 30);
            mill.ladder(order[2], 15, 25);
            mill.ladder(order[3], 10, 29);
            price("the greatest", mill, 4, 10);
            price("the greatest", mill, 5, 30);
            price("the greatest", mill, 10, 40);
            price("not the last", mill, 15, 40);
            price("not the sum", mill, 1000, 40);
        }
    }

    private static void greatestNumbers() {
        StemMill mill = oneBoard();
        mill.boardPrice(4, 1, 1000000);
        mill.ladder(0, 1000, 100000);
        price("the greatest of all", mill, 1000, 1100000);
        price("the greatest of all", mill, 999, 1000000);
    }

    private static void refusedStepChangesNothing() {
        StemMill mill = oneBoard();
        mill.ladder(0, 5, 3);
        int[][] wrong = {{0, 5, 100001}, {0, 5, -1}, {0, -1, 9}, {0, 100001, 9}, {-1, 1, 9}, {4, 1, 9}, {0, 0, -1},
            {0, -1, 0}, {Integer.MIN_VALUE, 1, 9}};
        for (int[] one : wrong) {
            CHECKS.refused("ladder", mill.ladder(one[0], one[1], one[2]));
            price("as it was", mill, 4, 10);
            price("as it was", mill, 5, 13);
        }
    }

    /** A size whose price with the addition is not 0 is sawn, in a cant and beside it. */
    private static void additionAlone() {
        StemMill mill = Mills.withLog(50, 1);
        mill.size(4, 150, 300);
        mill.height(0, 300);
        mill.ladder(0, 1, 1);
        CHECKS.due("no need, no price", mill.saw(0), 0);
        CHECKS.due("cant()", mill.cant(), StemMill.NONE);
        mill.need(4, 1);
        CHECKS.due("two boards of 1", mill.saw(0), 2);
        CHECKS.due("cant()", mill.cant(), 300);
        CHECKS.due("needNow", mill.needNow(4), 0);
        CHECKS.due("no need again", mill.saw(0), 0);
        CHECKS.due("boards()", mill.boards(), 0);
    }

    private static void additionOfNothing() {
        StemMill mill = oneBoard();
        mill.boardPrice(4, 1, 0);
        CHECKS.taken("a step that adds nothing", mill.ladder(0, 1, 0));
        mill.need(4, 1000);
        CHECKS.due("price 0 with the addition: not sawn", mill.saw(0), 0);
        CHECKS.due("needNow", mill.needNow(4), 1000);
    }

    private static StemMill fourBoards() {
        // 1000 tenths: four boards of 100 by 600 in the half circle.
        StemMill mill = Mills.withLog(100, 1);
        mill.size(0, 100, 600);
        mill.boardPrice(0, 1, 10);
        return mill;
    }

    private static void needsAreLookedAtWhenSawingBegins() {
        StemMill mill = fourBoards();
        mill.ladder(0, 3, 5);
        mill.need(0, 3);
        CHECKS.due("all four at the price of need 3", mill.saw(0), 60);
        for (int i = 0; i < 4; i++) {
            CHECKS.due("price of board " + i, mill.board(i, 3), 15);
        }
        CHECKS.due("the next at that of need 0", mill.saw(0), 40);
        mill.need(0, 7);
        CHECKS.due("need 7", mill.saw(0), 60);
        CHECKS.due("need 3", mill.saw(0), 60);
        CHECKS.due("need 0", mill.saw(0), 40);
    }

    private static void needFallsByTheBoardsOfThePattern() {
        StemMill mill = fourBoards();
        mill.need(0, 1000);
        mill.need(1, 1000);
        for (int i = 1; i <= 5; i++) {
            mill.saw(0);
            CHECKS.due("needNow(0)", mill.needNow(0), 1000 - 4 * i);
            CHECKS.due("needNow(1)", mill.needNow(1), 1000);
        }
    }

    private static void sideBoardsOfACantFallTwice() {
        StemMill mill = fourBoards();
        mill.size(1, 400, 600);
        mill.boardPrice(1, 1, 100);
        mill.height(0, 600);
        mill.need(0, 5);
        mill.need(1, 5);
        // In the cant two of 400, above it one of 100 and below it another.
        CHECKS.due("saw", mill.saw(0), 220);
        CHECKS.due("side boards", mill.needNow(0), 3);
        CHECKS.due("cant boards", mill.needNow(1), 3);
    }

    private static void notBelow0() {
        int[][] cases = {{0, 0}, {1, 0}, {3, 0}, {4, 0}, {5, 1}, {1000, 996}};
        for (int[] one : cases) {
            StemMill mill = fourBoards();
            mill.need(0, one[0]);
            mill.saw(0);
            CHECKS.due("need " + one[0] + " less four", mill.needNow(0), one[1]);
        }
    }

    private static void nothingSawnNothingFalls() {
        StemMill mill = Mills.withLog(50, 1);
        for (int size = 0; size < 6; size++) {
            mill.size(size, 4000, 4000);
            mill.boardPrice(size, 1, 1);
            mill.need(size, 1 + size);
        }
        CHECKS.due("all are too great", mill.saw(0), 0);
        for (int size = 0; size < 6; size++) {
            CHECKS.due("needNow(" + size + ")", mill.needNow(size), 1 + size);
        }
    }

    private static void noSawingNothingFalls() {
        StemMill mill = fourBoards();
        mill.need(0, 9);
        int[] wrong = {-1, 1, Integer.MIN_VALUE, Integer.MAX_VALUE};
        for (int i : wrong) {
            boolean thrown = false;
            try {
                mill.saw(i);
            } catch (NoSuchElementException e) {
                thrown = true;
            }
            CHECKS.taken("saw(" + i + ") throws", thrown);
            CHECKS.due("needNow(0)", mill.needNow(0), 9);
        }
        mill.fits(0, 1, 100);
        mill.boards();
        CHECKS.due("needNow(0)", mill.needNow(0), 9);
    }
}
