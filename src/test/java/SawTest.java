import java.util.ArrayList;
import java.util.List;

/** Promises 17 to 20: saw, boards, board, cant. Patterns are also weighed one by one against the rules. */
public final class SawTest {
    private static final Checks CHECKS = new Checks("promises 17 to 20");

    public static void main(String[] args) {
        nothingYet();
        rowsAndStacks();
        withoutCant();
        halfChordEdges();
        equalHeights();
        noneIsAboveAllHeights();
        equalRows();
        equalStacks();
        logAsItWasBucked();
        patternStays();
        manyPatterns();
        largest();
        int sawn = 0;
        int cants = 0;
        for (int seed = 1; seed <= 1500; seed++) {
            Weighed weighed = new Weighed(seed);
            weighed.compare();
            sawn += weighed.best.size() > 0 ? 1 : 0;
            cants += weighed.height < Integer.MAX_VALUE ? 1 : 0;
        }
        CHECKS.taken("patterns of all sorts are weighed: " + sawn + ", " + cants, sawn - cants > 200 && cants > 400);
        CHECKS.end();
    }

    private static void nothingYet() {
        StemMill mill = new StemMill(3);
        CHECKS.due("boards()", mill.boards(), 0);
        CHECKS.due("cant()", mill.cant(), StemMill.NONE);
        CHECKS.missing("board(0, 0)", () -> mill.board(0, 0));
        CHECKS.missing("saw(0)", () -> mill.saw(0));
        mill.logKind(0, 3, 0);
        mill.byHand(1);
        CHECKS.missing("saw(1)", () -> mill.saw(1));
        CHECKS.missing("saw(-1)", () -> mill.saw(-1));
        CHECKS.missing("saw(most)", () -> mill.saw(Integer.MAX_VALUE));
        CHECKS.due("saw(0) without sizes", mill.saw(0), 0);
        CHECKS.due("boards()", mill.boards(), 0);
        CHECKS.due("cant()", mill.cant(), StemMill.NONE);
        CHECKS.missing("board(0, 0)", () -> mill.board(0, 0));
    }

    private static void boards(String name, StemMill mill, int[][] due) {
        CHECKS.due(name + " boards()", mill.boards(), due.length);
        for (int i = 0; i < due.length && i < mill.boards(); i++) {
            for (int what = 0; what < 4; what++) {
                CHECKS.due(name + " board(" + i + ", " + what + ")", mill.board(i, what), due[i][what]);
            }
        }
        CHECKS.missing(name + " behind the last", () -> mill.board(due.length, 0));
    }

    private static void rowsAndStacks() {
        // 1000 tenths, height 600, kerf 20: the row has 800, two boards of 390 and a kerf; faces of side boards
        // at 600 + 2 * 20 + 2 * 80 = 800 (600 wide) and 800 + 2 * 20 + 2 * 50 = 940 (300 wide).
        StemMill mill = Mills.withLog(100, 1);
        mill.kerf(20);
        mill.size(0, 390, 600);
        mill.size(1, 80, 600);
        mill.size(2, 50, 300);
        mill.boardPrice(0, 1, 500);
        mill.boardPrice(1, 1, 70);
        mill.boardPrice(2, 1, 30);
        mill.height(2, 600);
        CHECKS.due("saw", mill.saw(0), 1200);
        CHECKS.due("cant", mill.cant(), 600);
        boards("row and stacks", mill, new int[][] {
            {0, 0, 0, 500}, {0, 0, 410, 500},
            {1, 1, 800, 70}, {2, 1, 940, 30},
            {1, 2, 800, 70}, {2, 2, 940, 30}});
        CHECKS.missing("board(0, 4)", () -> mill.board(0, 4));
        CHECKS.missing("board(0, -1)", () -> mill.board(0, -1));
        CHECKS.missing("board(-1, 0)", () -> mill.board(-1, 0));
        CHECKS.missing("saw(1)", () -> mill.saw(1));
        CHECKS.due("the pattern stays", mill.boards(), 6);
    }

    private static void withoutCant() {
        // 1000 tenths: faces at 2 * 200 = 400, then 400 + 2 * 50 + 2 * 150 = 800; nothing below.
        StemMill mill = Mills.withLog(100, 1);
        mill.kerf(50);
        mill.size(0, 150, 600);
        mill.size(1, 200, 900);
        mill.boardPrice(0, 1, 10);
        mill.boardPrice(1, 1, 40);
        mill.height(0, 700);
        CHECKS.due("saw", mill.saw(0), 50);
        CHECKS.due("a height without a cant board gives no cant", mill.cant(), StemMill.NONE);
        boards("no cant", mill, new int[][] {{1, 1, 400, 40}, {0, 1, 800, 10}});
    }

    private static void halfChordEdges() {
        // 500 tenths: 300 by 400 just fits.
        StemMill mill = Mills.withLog(50, 1);
        mill.size(0, 150, 400);
        mill.boardPrice(0, 1, 10);
        CHECKS.due("a face at 300, 400 wide", mill.saw(0), 10);
        mill.size(0, 151, 400);
        mill.boardPrice(0, 1, 10);
        CHECKS.due("a face at 302", mill.saw(0), 0);
        mill.size(0, 150, 401);
        mill.boardPrice(0, 1, 10);
        CHECKS.due("401 wide", mill.saw(0), 0);
        mill.size(0, 400, 300);
        mill.boardPrice(0, 1, 10);
        mill.height(0, 300);
        CHECKS.due("a row of 400 in a cant of 300", mill.saw(0), 10);
        mill.size(0, 401, 300);
        mill.boardPrice(0, 1, 10);
        CHECKS.due("a row of 401", mill.saw(0), 0);
        mill.size(0, 50, 500);
        mill.boardPrice(0, 1, 10);
        mill.height(0, 500);
        CHECKS.due("as wide as the circle", mill.saw(0), 0);
        mill.size(0, 50, 4000);
        mill.boardPrice(0, 1, 10);
        mill.height(0, 4000);
        mill.kerf(100);
        CHECKS.due("wider than the circle", mill.saw(0), 0);
    }

    private static void equalHeights() {
        StemMill mill = Mills.withLog(100, 1);
        mill.size(0, 400, 700);
        mill.size(1, 400, 600);
        mill.size(2, 400, 500);
        for (int size = 0; size < 3; size++) {
            mill.boardPrice(size, 1, 20);
        }
        mill.boardPrice(1, 1, 10);
        mill.boardPrice(2, 1, 10);
        mill.height(0, 700);
        mill.height(1, 600);
        mill.height(2, 500);
        // One board of 20 in 700, two of 10 in 600 and in 500, and one of 20 without a cant.
        CHECKS.due("saw", mill.saw(0), 20);
        CHECKS.due("the lowest height", mill.cant(), 500);
        mill.height(2, 700);
        CHECKS.due("saw", mill.saw(0), 20);
        CHECKS.due("the lowest height", mill.cant(), 600);
        mill.height(3, 500);
        CHECKS.due("saw", mill.saw(0), 20);
        CHECKS.due("the lowest height", mill.cant(), 500);
        mill.boardPrice(0, 1, 21);
        CHECKS.due("saw", mill.saw(0), 21);
        CHECKS.due("a greater value", mill.cant(), 700);
    }

    private static void noneIsAboveAllHeights() {
        StemMill mill = Mills.withLog(100, 1);
        mill.size(0, 100, 300);
        mill.size(1, 400, 500);
        mill.boardPrice(1, 1, 25);
        mill.height(0, 500);
        CHECKS.due("one board either way or two in a cant", mill.saw(0), 50);
        mill.kerf(67);
        // Two boards and the kerf are 867 wide, the row has 866.
        CHECKS.due("one board either way", mill.saw(0), 25);
        CHECKS.due("a cant before none", mill.cant(), 500);
        CHECKS.due("in the cant", mill.board(0, 1), 0);
        mill.boardPrice(0, 1, 1);
        // The cant has two of 1 beside the 25; without one the stack is 25 alone.
        CHECKS.due("with side boards", mill.saw(0), 27);
        CHECKS.due("cant", mill.cant(), 500);
    }

    private static void equalRows() {
        // The row has 800: 300 + 500 or 500 + 300 or 400 + 400, all worth 8.
        StemMill mill = Mills.withLog(100, 1);
        mill.size(5, 500, 600);
        mill.size(3, 300, 600);
        mill.size(4, 400, 600);
        mill.boardPrice(5, 1, 5);
        mill.boardPrice(3, 1, 3);
        mill.boardPrice(4, 1, 4);
        mill.height(1, 600);
        CHECKS.due("saw", mill.saw(0), 8);
        boards("equal rows", mill, new int[][] {{3, 0, 0, 3}, {5, 0, 300, 5}});
        mill.boardPrice(5, 1, 4);
        CHECKS.due("saw", mill.saw(0), 8);
        boards("only one row", mill, new int[][] {{4, 0, 0, 4}, {4, 0, 400, 4}});
    }

    private static void equalStacks() {
        // Faces at 200 and 800: the wide one must stand inside, though its number is the greater.
        StemMill mill = Mills.withLog(100, 1);
        mill.size(0, 300, 600);
        mill.size(1, 100, 900);
        mill.boardPrice(0, 1, 10);
        mill.boardPrice(1, 1, 10);
        CHECKS.due("saw", mill.saw(0), 20);
        boards("wide one inside", mill, new int[][] {{1, 1, 200, 10}, {0, 1, 800, 10}});
        mill.size(1, 100, 600);
        mill.boardPrice(1, 1, 5);
        mill.size(2, 200, 600);
        mill.boardPrice(2, 1, 10);
        mill.boardPrice(0, 1, 15);
        CHECKS.due("equal stacks", mill.saw(0), 20);
        boards("lowest size first", mill, new int[][] {{0, 1, 600, 15}, {1, 1, 800, 5}});
    }

    private static void logAsItWasBucked() {
        StemMill mill = new StemMill(5);
        mill.logKind(0, 2, 0);
        for (int point = 0; point <= 5; point++) {
            mill.diameter(point, point < 3 ? 100 : 50);
        }
        mill.defect(0, 2, 3);
        mill.byHand(0x0101);
        mill.size(0, 150, 400);
        mill.boardPrice(0, 1, 10);
        mill.boardPrice(0, 2, 20);
        mill.boardPrice(0, 3, 30);
        mill.diameter(0, 50);
        mill.defect(3, 5, 2);
        CHECKS.due("top 100, grade 3: three boards", mill.saw(0), 90);
        CHECKS.due("top 50, grade 1: one board", mill.saw(1), 10);
        CHECKS.missing("saw(2)", () -> mill.saw(2));
        mill.byHand(0x0101);
        CHECKS.due("top 50 now", mill.saw(0), 30);
        CHECKS.due("grade 2 now", mill.saw(1), 20);
    }

    private static void patternStays() {
        StemMill mill = Mills.withLog(100, 1);
        mill.size(0, 400, 600);
        mill.boardPrice(0, 1, 10);
        mill.height(0, 600);
        mill.ladder(0, 1, 3);
        mill.need(0, 5);
        CHECKS.due("saw", mill.saw(0), 26);
        mill.size(0, 60, 60);
        mill.boardPrice(0, 1, 1);
        mill.height(0, 700);
        mill.kerf(9);
        mill.need(0, 0);
        mill.ladder(0, 1, 4);
        mill.buck();
        CHECKS.due("logs()", mill.logs(), 0);
        CHECKS.due("cant", mill.cant(), 600);
        boards("the latest pattern", mill, new int[][] {{0, 0, 0, 13}, {0, 0, 400, 13}});
    }

    private static void manyPatterns() {
        StemMill mill = Mills.withLog(100, 1);
        mill.size(0, 400, 600);
        mill.size(1, 100, 600);
        mill.boardPrice(0, 1, 50);
        mill.boardPrice(1, 1, 10);
        for (int i = 0; i < 3; i++) {
            mill.height(0, 600);
            for (int again = 0; again < 3; again++) {
                CHECKS.due("saw with a cant", mill.saw(0), 120);
                boards("with a cant", mill, new int[][] {
                    {0, 0, 0, 50}, {0, 0, 400, 50}, {1, 1, 800, 10}, {1, 2, 800, 10}});
            }
            mill.height(0, 601);
            for (int again = 0; again < 3; again++) {
                CHECKS.due("saw without one", mill.saw(0), 50);
                CHECKS.due("cant", mill.cant(), StemMill.NONE);
                boards("without one", mill, new int[][] {{0, 1, 800, 50}});
            }
        }
    }

    private static void largest() {
        StemMill mill = Mills.withLog(900, 3);
        for (int size = 0; size < 6; size++) {
            mill.size(size, 50, 300);
            mill.boardPrice(size, 3, 1000000);
            mill.need(size, 1000);
        }
        mill.ladder(0, 1000, 100000);
        mill.height(0, 300);
        // The row has 8994: 179 boards; above it and below it 8994 - 300 over 100: 86 each.
        CHECKS.due("saw", mill.saw(0), 351 * 1100000);
        CHECKS.due("boards", mill.boards(), 351);
        CHECKS.due("last in the row", mill.board(178, 2), 8900);
        CHECKS.due("last above", mill.board(264, 2), 8900);
        CHECKS.due("above", mill.board(264, 1), 1);
        CHECKS.due("below", mill.board(265, 1), 2);
        CHECKS.due("first below", mill.board(265, 2), 400);
        CHECKS.due("last below", mill.board(350, 2), 8900);
        CHECKS.due("needNow", mill.needNow(0), 649);
        StemMill alone = Mills.withLog(900, 1);
        alone.size(5, 50, 50);
        alone.boardPrice(5, 1, 1);
        CHECKS.due("the highest stack", alone.saw(0), 89);
        CHECKS.due("its last face", alone.board(88, 2), 8900);
        alone.kerf(100);
        CHECKS.due("with the widest kerf: faces at 100, 400 .. 8800", alone.saw(0), 30);
        CHECKS.due("its last face", alone.board(29, 2), 8800);
    }

    /** A log whose patterns are all made and compared by the document's words. */
    private static final class Weighed {
        private final int seed;
        private final int across;
        private final int kerf;
        private final int[] thicknesses = new int[6];
        private final int[] widths = new int[6];
        private final int[] prices = new int[6];
        private final int[] needs = new int[6];
        private final int[] heights;
        private final StemMill mill;
        private final List<List<Integer>> rows = new ArrayList<>();
        private final List<List<Integer>> stacks = new ArrayList<>();
        private List<int[]> best = new ArrayList<>();
        private int value = 0;
        private int height = Integer.MAX_VALUE;
        private List<Integer> row = new ArrayList<>();
        private List<Integer> stack = new ArrayList<>();

        Weighed(int seed) {
            this.seed = seed;
            Dice dice = new Dice(seed * 77L);
            int top = dice.between(60, 160);
            int grade = dice.between(1, 3);
            across = 10 * top;
            mill = Mills.withLog(top, grade);
            kerf = dice.roll(3) == 0 ? 0 : dice.between(0, 100);
            mill.kerf(kerf);
            heights = new int[dice.roll(4)];
            for (int i = 0; i < heights.length; i++) {
                heights[i] = 300 + 100 * dice.roll(7) + dice.roll(2);
                mill.height(i, heights[i]);
            }
            int step = dice.roll(2) == 0 ? 1 : 50;
            for (int i = dice.between(1, 3); i > 0; i--) {
                tell(dice, dice.roll(6), step, grade);
            }
            order(dice);
        }

        private void tell(Dice dice, int size, int step, int grade) {
            thicknesses[size] = (200 + dice.roll(300)) / step * step;
            widths[size] = heights.length > 0 && dice.roll(4) > 0
                ? heights[dice.roll(heights.length)] : dice.between(100, 1200);
            prices[size] = dice.roll(4);
            mill.size(size, thicknesses[size], widths[size]);
            mill.boardPrice(size, grade, prices[size]);
        }

        private void order(Dice dice) {
            int[] shortages = new int[4];
            int[] additions = new int[4];
            for (int i = 0; i < 4; i++) {
                shortages[i] = dice.roll(8);
                additions[i] = dice.roll(2) == 0 ? 0 : dice.roll(3);
                mill.ladder(i, shortages[i], additions[i]);
            }
            for (int size = 0; size < 6; size++) {
                needs[size] = dice.roll(6);
                mill.need(size, needs[size]);
                int addition = 0;
                for (int i = 0; i < 4; i++) {
                    if (shortages[i] != 0 && shortages[i] <= needs[size] && additions[i] > addition) {
                        addition = additions[i];
                    }
                }
                prices[size] = thicknesses[size] == 0 ? 0 : prices[size] + addition;
            }
        }

        void compare() {
            stacksFrom(new ArrayList<>(), 0, false);
            for (List<Integer> one : stacks) {
                weigh(Integer.MAX_VALUE, new ArrayList<>(), one);
            }
            for (int tried : heights) {
                rows.clear();
                stacks.clear();
                rowsFrom(new ArrayList<>(), 0, tried);
                stacksFrom(new ArrayList<>(), tried, true);
                for (List<Integer> left : rows) {
                    for (List<Integer> up : stacks) {
                        weigh(tried, left, up);
                    }
                }
            }
            list();
            String name = "seed " + seed + " ";
            CHECKS.due(name + "saw", mill.saw(0), value);
            CHECKS.due(name + "cant", mill.cant(), height == Integer.MAX_VALUE ? StemMill.NONE : height);
            boards(name, mill, best.toArray(new int[0][]));
            for (int size = 0; size < 6; size++) {
                int left = needs[size];
                for (int[] board : best) {
                    left = board[0] == size && left > 0 ? left - 1 : left;
                }
                CHECKS.due(name + "needNow", mill.needNow(size), left);
            }
        }

        private void rowsFrom(List<Integer> made, int width, int tried) {
            if (!made.isEmpty()) {
                rows.add(new ArrayList<>(made));
            }
            for (int size = 0; size < 6; size++) {
                int next = width + (made.isEmpty() ? 0 : kerf) + thicknesses[size];
                if (prices[size] > 0 && widths[size] == tried && next * next + tried * tried <= across * across) {
                    made.add(size);
                    rowsFrom(made, next, tried);
                    made.remove(made.size() - 1);
                }
            }
        }

        private void stacksFrom(List<Integer> made, int face, boolean kerfAhead) {
            stacks.add(new ArrayList<>(made));
            for (int size = 0; size < 6; size++) {
                int next = face + (kerfAhead ? 2 * kerf : 0) + 2 * thicknesses[size];
                if (prices[size] > 0 && widths[size] * widths[size] + next * next <= across * across) {
                    made.add(size);
                    stacksFrom(made, next, true);
                    made.remove(made.size() - 1);
                }
            }
        }

        private void weigh(int tried, List<Integer> left, List<Integer> up) {
            int worth = 0;
            for (int size : left) {
                worth += prices[size];
            }
            for (int size : up) {
                worth += tried == Integer.MAX_VALUE ? prices[size] : 2 * prices[size];
            }
            int order = Integer.compare(worth, value);
            order = order != 0 ? order : Integer.compare(height, tried);
            order = order != 0 ? order : compare(row, left);
            order = order != 0 ? order : compare(stack, up);
            if (order > 0) {
                value = worth;
                height = tried;
                row = left;
                stack = up;
            }
        }

        private static int compare(List<Integer> a, List<Integer> b) {
            for (int i = 0; i < a.size() && i < b.size(); i++) {
                int order = Integer.compare(a.get(i), b.get(i));
                if (order != 0) {
                    return order;
                }
            }
            return Integer.compare(a.size(), b.size());
        }

        private void list() {
            int left = 0;
            for (int size : row) {
                best.add(new int[] {size, 0, left, prices[size]});
                left += thicknesses[size] + kerf;
            }
            int sides = height == Integer.MAX_VALUE ? 1 : 2;
            for (int where = 1; where <= sides; where++) {
                int face = sides == 1 ? -2 * kerf : height;
                for (int size : stack) {
                    face += 2 * kerf + 2 * thicknesses[size];
                    best.add(new int[] {size, where, face, prices[size]});
                }
            }
        }
    }
}
