import java.util.NoSuchElementException;

/** The edges of promises 17 to 20, sentence by sentence: saw, boards, board, cant, and what a pattern is. */
public final class PatternEdgesTest {
    private static final Checks CHECKS = new Checks("edges of promises 17 to 20");

    public static void main(String[] args) {
        beforeAny();
        noSuchLog();
        failedSawingChangesNothing();
        emptyPattern();
        emptyPatternIsTheLatest();
        eachLogByItself();
        rowAtMostTheCircle();
        rowKerfsBetweenNeighbours();
        heightsAsGreatAsTheCircle();
        firstSideBoard();
        secondSideBoard();
        withoutACant();
        kerfAheadOfTheFirstWithoutACant();
        nothingBelowWithoutACant();
        heightWithoutACantBoard();
        cantWithoutSideBoards();
        widthIsTheHeight();
        worthlessSizesAreNotSawn();
        lowestHeightInTenths();
        noneIsAboveAllHeights();
        lowestSizesInTheRow();
        lowestSizesInTheStack();
        countingTwice();
        noSuchBoard();
        noSuchWhat();
        fullestPattern();
        patternsDoNotMix();
        CHECKS.end();
    }

    private static StemMill sawn(StemMill mill, String name, int value, int cant, int[][] boards) {
        CHECKS.due(name + ": saw(0)", mill.saw(0), value);
        CHECKS.due(name + ": cant()", mill.cant(), cant);
        CHECKS.due(name + ": boards()", mill.boards(), boards.length);
        for (int i = 0; i < boards.length && i < mill.boards(); i++) {
            for (int what = 0; what < 4; what++) {
                CHECKS.due(name + ": board(" + i + ", " + what + ")", mill.board(i, what), boards[i][what]);
            }
        }
        return mill;
    }

    private static void tell(StemMill mill, int size, int thickness, int width, int cents) {
        CHECKS.taken("size", mill.size(size, thickness, width));
        CHECKS.taken("boardPrice", mill.boardPrice(size, 1, cents));
    }

    private static boolean hasBoard(StemMill mill, int i, int what) {
        try {
            mill.board(i, what);
            return true;
        } catch (NoSuchElementException e) {
            return false;
        }
    }

    private static boolean hasLog(StemMill mill, int i) {
        try {
            mill.saw(i);
            return true;
        } catch (NoSuchElementException e) {
            return false;
        }
    }

    private static void beforeAny() {
        StemMill mill = Mills.withLog(900, 1);
        tell(mill, 0, 50, 300, 1);
        mill.height(0, 300);
        CHECKS.due("boards()", mill.boards(), 0);
        CHECKS.due("cant()", mill.cant(), StemMill.NONE);
        for (int what = 0; what < 4; what++) {
            int asked = what;
            CHECKS.range("board before any", 1, 0, i -> hasBoard(mill, i, asked));
        }
    }

    private static void noSuchLog() {
        StemMill fresh = new StemMill(9);
        CHECKS.range("log of no cutting", 1, 0, i -> hasLog(fresh, i));
        fresh.buck();
        CHECKS.range("log of an empty cutting", 1, 0, i -> hasLog(fresh, i));
        fresh.logKind(0, 1, 0);
        fresh.byHand(0x010101);
        CHECKS.range("log of three", 0, 2, i -> hasLog(fresh, i));
        fresh.byHand(0);
        CHECKS.range("log of none again", 1, 0, i -> hasLog(fresh, i));
    }

    private static void failedSawingChangesNothing() {
        StemMill mill = Mills.withLog(50, 1);
        tell(mill, 0, 150, 400, 10);
        mill.need(0, 9);
        mill.saw(0);
        int[] wrong = {-1, 1, 40, Integer.MIN_VALUE, Integer.MAX_VALUE};
        for (int i : wrong) {
            CHECKS.refused("saw(" + i + ")", hasLog(mill, i));
            CHECKS.due("boards()", mill.boards(), 1);
            CHECKS.due("board(0, 2)", mill.board(0, 2), 300);
            CHECKS.due("needNow(0)", mill.needNow(0), 8);
        }
    }

    private static void emptyPattern() {
        sawn(Mills.withLog(900, 1), "no sizes", 0, StemMill.NONE, new int[0][]);
        StemMill free = Mills.withLog(900, 1);
        tell(free, 0, 100, 300, 0);
        free.height(0, 300);
        sawn(free, "no prices", 0, StemMill.NONE, new int[0][]);
        StemMill great = Mills.withLog(50, 1);
        tell(great, 0, 50, 500, 5);
        tell(great, 1, 400, 301, 5);
        great.height(0, 500);
        great.height(1, 301);
        sawn(great, "no room", 0, StemMill.NONE, new int[0][]);
    }

    private static void emptyPatternIsTheLatest() {
        StemMill mill = Mills.withLog(50, 1);
        tell(mill, 0, 400, 300, 10);
        mill.height(0, 300);
        sawn(mill, "one board", 10, 300, new int[][] {{0, 0, 0, 10}});
        mill.boardPrice(0, 1, 0);
        CHECKS.due("the pattern stays until the next", mill.boards(), 1);
        sawn(mill, "none", 0, StemMill.NONE, new int[0][]);
        CHECKS.range("board of an empty pattern", 1, 0, i -> hasBoard(mill, i, 0));
    }

    /** All boards have the log's grade, and stand in a circle of its top. */
    private static void eachLogByItself() {
        StemMill mill = new StemMill(5);
        for (int point = 0; point <= 5; point++) {
            mill.diameter(point, point < 2 ? 100 : point < 4 ? 50 : 99);
        }
        mill.defect(2, 3, 3);
        mill.defect(4, 5, 2);
        mill.logKind(0, 1, 0);
        mill.byHand(0x010101);
        mill.size(0, 400, 300);
        mill.boardPrice(0, 1, 10);
        mill.boardPrice(0, 2, 200);
        mill.boardPrice(0, 3, 3000);
        mill.height(0, 300);
        CHECKS.due("1000 tenths, grade 1: two boards", mill.saw(0), 20);
        CHECKS.due("500 tenths, grade 3: one board", mill.saw(1), 3000);
        CHECKS.due("its price", mill.board(0, 3), 3000);
        CHECKS.due("990 tenths, grade 2: two boards", mill.saw(2), 400);
        CHECKS.due("again", mill.saw(0), 20);
    }

    /** W * W + H * H is at most D * D. */
    private static void rowAtMostTheCircle() {
        int[][] sides = {{400, 300, 50}, {300, 400, 50}, {480, 360, 60}, {800, 600, 100}, {600, 800, 100},
            {1200, 900, 150}, {2400, 1800, 300}, {4000, 3000, 500}, {3000, 4000, 500}};
        for (int[] one : sides) {
            StemMill mill = Mills.withLog(one[2], 1);
            mill.height(0, one[1]);
            tell(mill, 0, one[0], one[1], 10);
            sawn(mill, "just in the circle", 10, one[1], new int[][] {{0, 0, 0, 10}});
            if (one[0] < 4000) {
                tell(mill, 0, one[0] + 1, one[1], 10);
                sawn(mill, "a tenth too thick", 0, StemMill.NONE, new int[0][]);
            }
            if (one[1] < 4000) {
                tell(mill, 0, one[0], one[1] + 1, 10);
                mill.height(0, one[1] + 1);
                sawn(mill, "a tenth too wide", 0, StemMill.NONE, new int[0][]);
            }
            if (one[2] > 50) {
                StemMill thin = Mills.withLog(one[2] - 1, 1);
                thin.height(0, one[1]);
                tell(thin, 0, one[0], one[1], 10);
                sawn(thin, "in a thinner log", 0, StemMill.NONE, new int[0][]);
            }
        }
    }

    /** A kerf between neighbours: one less than the boards. */
    private static void rowKerfsBetweenNeighbours() {
        for (int n = 1; n <= 8; n++) {
            for (int kerf = 0; kerf <= 100; kerf += 20) {
                // 500 tenths, height 300: the row has 400.
                int thickness = (400 - (n - 1) * kerf) / n;
                // Boards of 50 would also stand above and below.
                if (thickness <= 50) {
                    continue;
                }
                StemMill mill = Mills.withLog(50, 1);
                mill.kerf(kerf);
                mill.height(0, 300);
                tell(mill, 0, thickness, 300, 1);
                CHECKS.due(n + " boards, kerf " + kerf, mill.saw(0), n);
                CHECKS.due("the last one's left face", mill.board(n - 1, 2), (n - 1) * (thickness + kerf));
                tell(mill, 0, thickness + 1, 300, 1);
                CHECKS.due(n + " thicker boards, kerf " + kerf, mill.saw(0), n - 1);
            }
        }
    }

    private static void heightsAsGreatAsTheCircle() {
        int[] heights = {499, 500, 501, 3999, 4000};
        for (int height : heights) {
            StemMill mill = Mills.withLog(50, 1);
            tell(mill, 0, 50, height, 10);
            mill.height(0, height);
            mill.kerf(100);
            sawn(mill, "height " + height, 0, StemMill.NONE, new int[0][]);
        }
        // 497 * 497 + 54 * 54 is 249925, with 55 it is above 250000.
        StemMill mill = Mills.withLog(50, 1);
        tell(mill, 0, 54, 497, 10);
        mill.height(0, 497);
        sawn(mill, "height 497", 10, 497, new int[][] {{0, 0, 0, 10}});
        tell(mill, 0, 55, 497, 10);
        sawn(mill, "height 497, thicker", 0, StemMill.NONE, new int[0][]);
    }

    /** H + 2 * kerf + 2 * thickness for the first one; B * B + Y * Y is at most D * D. */
    private static void firstSideBoard() {
        for (int kerf = 0; kerf <= 100; kerf += 25) {
            // 1000 tenths: a face at 800 has 600.
            StemMill mill = Mills.withLog(100, 1);
            mill.kerf(kerf);
            mill.height(0, 500);
            tell(mill, 5, 800, 500, 1000);
            tell(mill, 0, 150 - kerf, 600, 1);
            sawn(mill, "just in the circle", 1002, 500,
                new int[][] {{5, 0, 0, 1000}, {0, 1, 800, 1}, {0, 2, 800, 1}});
            tell(mill, 0, 151 - kerf, 600, 1);
            sawn(mill, "a tenth too thick", 1000, 500, new int[][] {{5, 0, 0, 1000}});
            tell(mill, 0, 150 - kerf, 601, 1);
            sawn(mill, "a tenth too wide", 1000, 500, new int[][] {{5, 0, 0, 1000}});
            if (kerf < 100) {
                tell(mill, 0, 150 - kerf, 600, 1);
                mill.kerf(kerf + 1);
                sawn(mill, "a kerf a tenth too wide", 1000, 500, new int[][] {{5, 0, 0, 1000}});
            }
        }
    }

    private static void secondSideBoard() {
        // 1000 tenths, height 500: faces at 500 + 2 * 10 + 2 * 50 = 620 and 620 + 2 * 10 + 2 * 80 = 800.
        StemMill mill = Mills.withLog(100, 1);
        mill.kerf(10);
        mill.height(0, 500);
        tell(mill, 5, 800, 500, 1000);
        tell(mill, 1, 80, 600, 5);
        tell(mill, 0, 50, 784, 3);
        sawn(mill, "two above and two below", 1016, 500, new int[][] {{5, 0, 0, 1000},
            {0, 1, 620, 3}, {1, 1, 800, 5}, {0, 2, 620, 3}, {1, 2, 800, 5}});
        tell(mill, 1, 81, 600, 5);
        sawn(mill, "the second a tenth too thick", 1010, 500,
            new int[][] {{5, 0, 0, 1000}, {1, 1, 682, 5}, {1, 2, 682, 5}});
    }

    /** Without a cant H counts as 0 and there is no kerf ahead of the first one. */
    private static void withoutACant() {
        int[][] boards = {{150, 400, 50}, {200, 300, 50}, {300, 800, 100}, {400, 600, 100}, {2000, 3000, 500},
            {1500, 4000, 500}};
        for (int[] one : boards) {
            StemMill mill = Mills.withLog(one[2], 1);
            tell(mill, 3, one[0], one[1], 10);
            sawn(mill, "just in the circle", 10, StemMill.NONE, new int[][] {{3, 1, 2 * one[0], 10}});
            tell(mill, 3, one[0] + 1, one[1], 10);
            sawn(mill, "a tenth too thick", 0, StemMill.NONE, new int[0][]);
            if (one[1] < 4000) {
                tell(mill, 3, one[0], one[1] + 1, 10);
                sawn(mill, "a tenth too wide", 0, StemMill.NONE, new int[0][]);
            }
        }
    }

    private static void kerfAheadOfTheFirstWithoutACant() {
        for (int kerf = 0; kerf <= 100; kerf += 10) {
            StemMill mill = Mills.withLog(50, 1);
            mill.kerf(kerf);
            tell(mill, 3, 150, 400, 10);
            sawn(mill, "no kerf of " + kerf + " ahead", 10, StemMill.NONE, new int[][] {{3, 1, 300, 10}});
            // 1000 tenths: faces at 200 and 200 + 2 * kerf + 2 * (300 - kerf) = 800.
            StemMill two = Mills.withLog(100, 1);
            two.kerf(kerf);
            tell(two, 0, 300 - kerf, 600, 10);
            tell(two, 1, 100, 979, 50);
            sawn(two, "a kerf of " + kerf + " between", 60, StemMill.NONE,
                new int[][] {{1, 1, 200, 50}, {0, 1, 800, 10}});
        }
    }

    private static void nothingBelowWithoutACant() {
        StemMill mill = Mills.withLog(100, 1);
        tell(mill, 0, 400, 600, 7);
        mill.need(0, 2);
        sawn(mill, "one above alone", 7, StemMill.NONE, new int[][] {{0, 1, 800, 7}});
        CHECKS.due("needNow(0)", mill.needNow(0), 1);
    }

    /** Without a cant board a height gives no cant, though side boards on it would be worth more. */
    private static void heightWithoutACantBoard() {
        StemMill mill = Mills.withLog(100, 1);
        tell(mill, 0, 250, 600, 10);
        mill.height(0, 300);
        // On a cant of 300 one above and one below would end at 800; the half circle holds one, to 500.
        sawn(mill, "no board in the cant", 10, StemMill.NONE, new int[][] {{0, 1, 500, 10}});
        tell(mill, 1, 953, 300, 0);
        sawn(mill, "one that is worth nothing", 10, StemMill.NONE, new int[][] {{0, 1, 500, 10}});
        mill.boardPrice(1, 1, 1);
        sawn(mill, "one that just fits", 21, 300, new int[][] {{1, 0, 0, 1}, {0, 1, 800, 10}, {0, 2, 800, 10}});
        tell(mill, 1, 954, 300, 1);
        CHECKS.due("saw(0), one that is too thick", mill.saw(0), 10);
        CHECKS.due("cant()", mill.cant(), StemMill.NONE);
    }

    private static void cantWithoutSideBoards() {
        StemMill mill = Mills.withLog(50, 1);
        mill.height(0, 400);
        tell(mill, 2, 100, 400, 3);
        sawn(mill, "a row alone", 9, 400, new int[][] {{2, 0, 0, 3}, {2, 0, 100, 3}, {2, 0, 200, 3}});
        CHECKS.range("board", 0, 2, i -> hasBoard(mill, i, 0));
    }

    /** Cant boards are sizes whose width is H: a tenth more or less is none. */
    private static void widthIsTheHeight() {
        for (int width = 398; width <= 402; width++) {
            StemMill mill = Mills.withLog(60, 1);
            mill.height(0, 400);
            tell(mill, 2, 200, width, 3);
            CHECKS.due("width " + width, mill.saw(0), width == 400 ? 6 : 3);
            CHECKS.due("cant()", mill.cant(), width == 400 ? 400 : StemMill.NONE);
        }
        // The thickness may be anything: a board of 400 by 300 does not lie down in a cant of 400.
        StemMill lying = Mills.withLog(50, 1);
        lying.height(0, 400);
        tell(lying, 2, 400, 300, 3);
        sawn(lying, "it does not lie down", 0, StemMill.NONE, new int[0][]);
    }

    private static void worthlessSizesAreNotSawn() {
        StemMill mill = Mills.withLog(100, 1);
        mill.height(0, 600);
        tell(mill, 0, 50, 600, 0);
        tell(mill, 1, 400, 600, 10);
        tell(mill, 2, 50, 50, 0);
        sawn(mill, "nothing beside the two", 20, 600, new int[][] {{1, 0, 0, 10}, {1, 0, 400, 10}});
        mill.boardPrice(2, 1, 1);
        sawn(mill, "the least price is one", 26, 600, new int[][] {{1, 0, 0, 10}, {1, 0, 400, 10},
            {2, 1, 700, 1}, {2, 1, 800, 1}, {2, 1, 900, 1}, {2, 2, 700, 1}, {2, 2, 800, 1}, {2, 2, 900, 1}});
        mill.boardPrice(2, 1, 0);
        tell(mill, 1, 370, 600, 10);
        sawn(mill, "nothing in the gap of the row", 20, 600, new int[][] {{1, 0, 0, 10}, {1, 0, 370, 10}});
        mill.boardPrice(0, 1, 1);
        sawn(mill, "one in the gap, two above, two below", 25, 600, new int[][] {{0, 0, 0, 1}, {1, 0, 50, 10},
            {1, 0, 420, 10}, {0, 1, 700, 1}, {0, 1, 800, 1}, {0, 2, 700, 1}, {0, 2, 800, 1}});
    }

    /** Of several that of the lowest height, in tenths, whatever the numbers of heights and sizes are. */
    private static void lowestHeightInTenths() {
        int[][] places = {{0, 1, 2, 3}, {3, 2, 1, 0}, {2, 0, 3, 1}};
        for (int[] place : places) {
            StemMill mill = Mills.withLog(50, 1);
            for (int i = 0; i < 4; i++) {
                // Each just once in its row, and too wide to be a side board.
                tell(mill, 5 - i, 260, 400 + i, 9);
                mill.height(place[i], 400 + i);
            }
            sawn(mill, "400 .. 403", 9, 400, new int[][] {{5, 0, 0, 9}});
            mill.boardPrice(5, 1, 8);
            sawn(mill, "401 .. 403", 9, 401, new int[][] {{4, 0, 0, 9}});
            mill.boardPrice(2, 1, 10);
            sawn(mill, "a greater value is before", 10, 403, new int[][] {{2, 0, 0, 10}});
        }
    }

    private static void noneIsAboveAllHeights() {
        StemMill tie = Mills.withLog(50, 1);
        tell(tie, 0, 201, 300, 9);
        tell(tie, 1, 150, 400, 9);
        sawn(tie, "on the middle", 9, StemMill.NONE, new int[][] {{1, 1, 300, 9}});
        tie.height(3, 300);
        sawn(tie, "as much in a cant", 9, 300, new int[][] {{0, 0, 0, 9}});
        tie.boardPrice(1, 1, 10);
        sawn(tie, "more without one", 10, StemMill.NONE, new int[][] {{1, 1, 300, 10}});
    }

    private static void lowestSizesInTheRow() {
        // 500 tenths, height 300: 400. 100 + 300, 300 + 100 or 200 + 200, all worth 4.
        int[][] due = {{0, 0, 0, 0}, {0, 2}, {0, 0}, {0, 0}};
        int[][] thickness = {{100, 200, 300}, {300, 200, 100}, {200, 100, 300}, {200, 300, 100}};
        for (int i = 0; i < due.length; i++) {
            StemMill mill = Mills.withLog(50, 1);
            mill.height(0, 300);
            for (int size = 0; size < 3; size++) {
                tell(mill, size, thickness[i][size], 300, thickness[i][size] / 100);
            }
            CHECKS.due("saw(0)", mill.saw(0), 4);
            CHECKS.due("boards()", mill.boards(), due[i].length);
            for (int board = 0; board < due[i].length; board++) {
                CHECKS.due("row " + i + ", board " + board, mill.board(board, 0), due[i][board]);
            }
        }
    }

    private static void lowestSizesInTheStack() {
        // 1000 tenths, boards 600 wide: faces up to 800, thicknesses up to 400 in all.
        int[][] due = {{0, 0, 0, 0}, {0, 2}, {0, 0}, {0, 0}};
        int[][] thickness = {{100, 200, 300}, {300, 200, 100}, {200, 100, 300}, {200, 300, 100}};
        for (int i = 0; i < due.length; i++) {
            StemMill mill = Mills.withLog(100, 1);
            for (int size = 0; size < 3; size++) {
                tell(mill, size, thickness[i][size], 600, thickness[i][size] / 100);
            }
            CHECKS.due("saw(0)", mill.saw(0), 4);
            CHECKS.due("boards()", mill.boards(), due[i].length);
            for (int board = 0; board < due[i].length; board++) {
                CHECKS.due("stack " + i + ", board " + board, mill.board(board, 0), due[i][board]);
            }
        }
    }

    /** Side boards of a cant count twice: a poorer row may carry the richer pattern. */
    private static void countingTwice() {
        StemMill mill = Mills.withLog(100, 1);
        mill.height(0, 800);
        mill.height(1, 300);
        tell(mill, 0, 600, 800, 20);
        tell(mill, 1, 900, 300, 1);
        tell(mill, 2, 250, 600, 9);
        sawn(mill, "20 or 1 and two of 9", 20, 800, new int[][] {{0, 0, 0, 20}});
        mill.boardPrice(2, 1, 10);
        sawn(mill, "20 or 1 and two of 10", 21, 300,
            new int[][] {{1, 0, 0, 1}, {2, 1, 800, 10}, {2, 2, 800, 10}});
    }

    private static void noSuchBoard() {
        StemMill mill = Mills.withLog(100, 1);
        mill.height(0, 600);
        tell(mill, 0, 400, 600, 10);
        tell(mill, 1, 100, 600, 1);
        sawn(mill, "two, one and one", 22, 600,
            new int[][] {{0, 0, 0, 10}, {0, 0, 400, 10}, {1, 1, 800, 1}, {1, 2, 800, 1}});
        for (int what = 0; what < 4; what++) {
            int asked = what;
            CHECKS.range("board of four", 0, 3, i -> hasBoard(mill, i, asked));
        }
        StemMill alone = Mills.withLog(100, 1);
        tell(alone, 1, 400, 600, 1);
        alone.saw(0);
        CHECKS.range("board of one", 0, 0, i -> hasBoard(alone, i, 0));
    }

    private static void noSuchWhat() {
        StemMill mill = Mills.withLog(100, 1);
        mill.height(0, 600);
        tell(mill, 0, 400, 600, 10);
        tell(mill, 1, 100, 600, 1);
        mill.saw(0);
        for (int i = 0; i < 4; i++) {
            int board = i;
            CHECKS.range("what of board " + i, 0, 3, what -> hasBoard(mill, board, what));
        }
        CHECKS.range("what of no board", 1, 0, what -> hasBoard(mill, 4, what));
    }

    private static void fullestPattern() {
        StemMill mill = Mills.withLog(900, 1);
        mill.height(0, 300);
        tell(mill, 0, 50, 300, 1000000);
        tell(mill, 1, 50, 50, 1000000);
        // The row has 8994: 179 boards; faces from 400 to 8900 for boards of 300, the same for boards of 50.
        CHECKS.due("saw(0)", mill.saw(0), 351000000);
        CHECKS.due("boards()", mill.boards(), 351);
        CHECKS.range("board", 0, 350, i -> hasBoard(mill, i, 2));
        int place = 0;
        for (int i = 0; i < 179; i++) {
            CHECKS.due("left face of board " + i, mill.board(i, 2), place);
            place += 50;
        }
        StemMill stack = Mills.withLog(900, 1);
        tell(stack, 1, 50, 50, 1000000);
        CHECKS.due("saw(0) without a cant", stack.saw(0), 89000000);
        CHECKS.due("boards()", stack.boards(), 89);
        for (int i = 0; i < 89; i++) {
            CHECKS.due("outer face of board " + i, stack.board(i, 2), 100 * (i + 1));
        }
    }

    /** A small pattern behind a great one, and the other way round: nothing of the other is left. */
    private static void patternsDoNotMix() {
        StemMill mill = new StemMill(3);
        for (int point = 0; point <= 3; point++) {
            mill.diameter(point, point < 2 ? 900 : 50);
        }
        mill.logKind(0, 1, 0);
        mill.byHand(0x0101);
        mill.height(0, 300);
        tell(mill, 0, 100, 300, 1);
        int great = 89 + 2 * 43;
        for (int i = 0; i < 3; i++) {
            CHECKS.due("the great log", mill.saw(0), great);
            CHECKS.due("boards()", mill.boards(), great);
            CHECKS.due("the small log", mill.saw(1), 4);
            CHECKS.due("boards()", mill.boards(), 4);
            CHECKS.missing("board(4, 0)", () -> mill.board(4, 0));
            CHECKS.due("needNow(0)", mill.needNow(0), 0);
        }
    }
}
