/** Promises 4 and 5: logKind, priceOf. */
public final class KindTest {
    private static final Checks CHECKS = new Checks("promises 4 and 5");

    public static void main(String[] args) {
        wrongKinds();
        lengthsAndTops();
        wrongPrices();
        pricesByClassAndGrade();
        again();
        CHECKS.end();
    }

    private static void wrongKinds() {
        StemMill mill = new StemMill(80);
        CHECKS.refused("kind -1", mill.logKind(-1, 1, 0));
        CHECKS.refused("kind 6", mill.logKind(6, 1, 0));
        CHECKS.refused("length 0", mill.logKind(0, 0, 0));
        CHECKS.refused("length 61", mill.logKind(0, 61, 0));
        CHECKS.refused("length -1", mill.logKind(0, -1, 0));
        CHECKS.refused("top -1", mill.logKind(0, 1, -1));
        CHECKS.refused("top 901", mill.logKind(0, 1, 901));
        CHECKS.refused("price of a kind that was refused", mill.priceOf(0, 1, 1, 1));
        CHECKS.taken("length 60, top 900", mill.logKind(5, 60, 900));
        CHECKS.taken("length 1, top 0", mill.logKind(0, 1, 0));
        CHECKS.taken("priceOf(5, ..)", mill.priceOf(5, 18, 3, 1000000));
        CHECKS.refused("wrong again", mill.logKind(0, 61, 0));
        CHECKS.due("the kind is as it was", mill.byHand(1), 0);
        CHECKS.refused("a kind that was not told", mill.priceOf(1, 1, 1, 1));
    }

    private static void lengthsAndTops() {
        StemMill mill = new StemMill(10);
        for (int point = 0; point <= 10; point++) {
            mill.diameter(point, 300 - 10 * point);
        }
        mill.logKind(0, 4, 260);
        CHECKS.due("top 260 is enough", mill.byHand(1), 0);
        CHECKS.due("top", mill.log(0, 2), 260);
        CHECKS.due("top 250 is not", mill.byHand(7), StemMill.NONE);
        mill.logKind(1, 10, 0);
        CHECKS.due("as long as the stem", mill.byHand(2), 0);
        CHECKS.due("one point too far", mill.byHand(8), StemMill.NONE);
        mill.logKind(1, 11, 0);
        CHECKS.due("longer than the stem", mill.byHand(2), StemMill.NONE);
    }

    private static void wrongPrices() {
        StemMill mill = new StemMill(10);
        mill.logKind(2, 1, 0);
        CHECKS.taken("price", mill.priceOf(2, 1, 1, 9));
        CHECKS.refused("kind -1", mill.priceOf(-1, 1, 1, 1));
        CHECKS.refused("kind 6", mill.priceOf(6, 1, 1, 1));
        CHECKS.refused("kind untold", mill.priceOf(3, 1, 1, 1));
        CHECKS.refused("class -1", mill.priceOf(2, -1, 1, 1));
        CHECKS.refused("class 19", mill.priceOf(2, 19, 1, 1));
        CHECKS.refused("grade 0", mill.priceOf(2, 1, 0, 1));
        CHECKS.refused("grade 4", mill.priceOf(2, 1, 4, 1));
        CHECKS.refused("cents -1", mill.priceOf(2, 1, 1, -1));
        CHECKS.refused("cents 1000001", mill.priceOf(2, 1, 1, 1000001));
        CHECKS.taken("class 0", mill.priceOf(2, 0, 1, 1));
        CHECKS.taken("class 18", mill.priceOf(2, 18, 3, 1));
        CHECKS.due("the price is as it was", mill.byHand(3), 9);
    }

    private static void pricesByClassAndGrade() {
        StemMill mill = new StemMill(3);
        mill.logKind(0, 1, 0);
        mill.logKind(1, 1, 0);
        for (int type = 0; type <= 18; type++) {
            for (int grade = 1; grade <= 3; grade++) {
                CHECKS.taken("priceOf", mill.priceOf(0, type, grade, 100 * type + grade));
                CHECKS.taken("priceOf", mill.priceOf(1, type, grade, 1000000 - 100 * type - grade));
            }
        }
        int[] diameters = {50, 99, 100, 149, 150, 449, 450, 899, 900};
        for (int grade = 1; grade <= 3; grade++) {
            if (grade > 1) {
                mill.defect(0, 0, grade);
            }
            for (int mm : diameters) {
                mill.diameter(0, mm);
                mill.diameter(1, 900);
                CHECKS.due("class of " + mm, mill.byHand(1), 100 * (mm / 50) + grade);
                CHECKS.due("the other kind", mill.byHand(2), 1000000 - 100 * (mm / 50) - grade);
            }
        }
    }

    private static void again() {
        StemMill mill = new StemMill(10);
        mill.logKind(0, 2, 0);
        mill.logKind(1, 2, 0);
        mill.priceOf(0, 1, 1, 50);
        mill.priceOf(1, 1, 1, 60);
        CHECKS.due("price", mill.byHand(1), 50);
        CHECKS.taken("again", mill.logKind(0, 3, 0));
        CHECKS.due("prices are 0 again", mill.byHand(1), 0);
        CHECKS.due("the other kind keeps its prices", mill.byHand(2), 60);
        CHECKS.due("the new length counts: the second log begins at 4", mill.byHand(0x201), 60);
        CHECKS.due("second log", mill.log(1, 0), 4);
    }
}
