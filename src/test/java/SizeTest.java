/** Promises 10 to 13: size, boardPrice, height, kerf. */
public final class SizeTest {
    private static final Checks CHECKS = new Checks("promises 10 to 13");

    public static void main(String[] args) {
        sizes();
        sizesAgain();
        prices();
        heights();
        kerfs();
        CHECKS.end();
    }

    private static void sizes() {
        StemMill mill = Mills.withLog(100, 1);
        CHECKS.refused("size -1", mill.size(-1, 100, 100));
        CHECKS.refused("size 6", mill.size(6, 100, 100));
        CHECKS.refused("thickness 49", mill.size(0, 49, 100));
        CHECKS.refused("thickness 4001", mill.size(0, 4001, 100));
        CHECKS.refused("width 49", mill.size(0, 100, 49));
        CHECKS.refused("width 4001", mill.size(0, 100, 4001));
        CHECKS.refused("width -100", mill.size(0, 100, -100));
        CHECKS.refused("no such size yet", mill.boardPrice(0, 1, 10));
        CHECKS.taken("the least", mill.size(0, 50, 50));
        CHECKS.taken("the most", mill.size(5, 4000, 4000));
        CHECKS.taken("boardPrice(0, ..)", mill.boardPrice(0, 1, 10));
        CHECKS.taken("boardPrice(5, ..)", mill.boardPrice(5, 1, 10));
        CHECKS.refused("refused, in place of one", mill.size(0, 50, 4001));
        // 1000 tenths: faces at 100, 200 .. 900 (50 by 900 fits, 50 by 1000 does not).
        CHECKS.due("saw", mill.saw(0), 90);
        CHECKS.due("boards", mill.boards(), 9);
    }

    private static void sizesAgain() {
        StemMill mill = Mills.withLog(100, 1);
        mill.size(0, 300, 600);
        mill.size(1, 400, 600);
        mill.boardPrice(0, 1, 10);
        mill.boardPrice(1, 1, 10);
        mill.need(0, 7);
        CHECKS.due("saw", mill.saw(0), 10);
        CHECKS.due("the lowest size", mill.board(0, 0), 0);
        CHECKS.due("needNow", mill.needNow(0), 6);
        CHECKS.taken("again", mill.size(0, 100, 100));
        CHECKS.due("its need stays", mill.needNow(0), 6);
        CHECKS.due("its prices are 0: the other is sawn", mill.saw(0), 10);
        CHECKS.due("size", mill.board(0, 0), 1);
        CHECKS.taken("boardPrice", mill.boardPrice(0, 1, 10));
        CHECKS.due("the new measures count", mill.saw(0), 40);
        CHECKS.due("place", mill.board(3, 2), 800);
    }

    private static void prices() {
        for (int grade = 1; grade <= 3; grade++) {
            StemMill mill = Mills.withLog(100, grade);
            mill.size(2, 400, 100);
            mill.size(3, 400, 200);
            CHECKS.refused("size -1", mill.boardPrice(-1, 1, 1));
            CHECKS.refused("size 6", mill.boardPrice(6, 1, 1));
            CHECKS.refused("a size that is not told", mill.boardPrice(1, 1, 1));
            CHECKS.due("price 0 until it is told", mill.saw(0), 0);
            CHECKS.due("not sawn", mill.boards(), 0);
            for (int told = 1; told <= 3; told++) {
                CHECKS.taken("boardPrice", mill.boardPrice(2, told, 100 * told));
            }
            CHECKS.refused("grade 0", mill.boardPrice(2, 0, 1));
            CHECKS.refused("grade 4", mill.boardPrice(2, 4, 1));
            CHECKS.refused("cents -1", mill.boardPrice(2, grade, -1));
            CHECKS.refused("cents 1000001", mill.boardPrice(2, grade, 1000001));
            CHECKS.due("the price of the log's grade", mill.saw(0), 100 * grade);
            CHECKS.due("price", mill.board(0, 3), 100 * grade);
            CHECKS.taken("the most", mill.boardPrice(3, grade, 1000000));
            CHECKS.due("saw", mill.saw(0), 1000000);
            CHECKS.due("size", mill.board(0, 0), 3);
            CHECKS.taken("none", mill.boardPrice(3, grade, 0));
            CHECKS.due("a size whose price is 0 is not sawn", mill.saw(0), 100 * grade);
        }
    }

    private static void heights() {
        StemMill mill = Mills.withLog(900, 1);
        mill.size(0, 4000, 300);
        mill.boardPrice(0, 1, 10);
        CHECKS.refused("height -1", mill.height(-1, 300));
        CHECKS.refused("height 4", mill.height(4, 300));
        CHECKS.refused("299 tenths", mill.height(0, 299));
        CHECKS.refused("5001 tenths", mill.height(0, 5001));
        mill.saw(0);
        CHECKS.due("no height yet", mill.cant(), StemMill.NONE);
        CHECKS.taken("5000 tenths", mill.height(0, 5000));
        CHECKS.taken("300 tenths", mill.height(3, 300));
        CHECKS.due("saw", mill.saw(0), 40);
        CHECKS.due("cant", mill.cant(), 300);
        CHECKS.refused("refused, in place of one", mill.height(3, 0));
        mill.saw(0);
        CHECKS.due("cant", mill.cant(), 300);
        CHECKS.taken("again, in place of the one before", mill.height(3, 301));
        CHECKS.due("saw", mill.saw(0), 10);
        CHECKS.due("no size of that width", mill.cant(), StemMill.NONE);
    }

    private static void kerfs() {
        // 500 tenths with height 300: the row has 400.
        StemMill mill = Mills.withLog(50, 1);
        mill.size(0, 150, 300);
        mill.boardPrice(0, 1, 10);
        mill.height(0, 300);
        int[] gaps = {0, 100, 101, -1};
        for (int gap : gaps) {
            boolean allowed = gap >= 0 && gap <= 100;
            CHECKS.due("kerf(" + gap + ")", mill.kerf(gap) ? 1 : 0, allowed ? 1 : 0);
            CHECKS.due("saw", mill.saw(0), 20);
            CHECKS.due("second board", mill.board(1, 2), gap == 0 ? 150 : 250);
        }
        mill.size(0, 151, 300);
        mill.boardPrice(0, 1, 10);
        CHECKS.due("two boards and a kerf of 100 are too wide", mill.saw(0), 10);
        mill.kerf(98);
        CHECKS.due("and one of 98 is not", mill.saw(0), 20);
        mill.kerf(99);
        CHECKS.due("but one of 99 is", mill.saw(0), 10);
    }
}
