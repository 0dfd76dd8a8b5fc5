/** The edges of promises 4 and 5, sentence by sentence: logKind, priceOf, and what a log of a kind is. */
public final class KindEdgesTest {
    private static final Checks CHECKS = new Checks("edges of promises 4 and 5");

    public static void main(String[] args) {
        kindNumbers();
        refusedKindIsNone();
        refusedKindChangesNothing();
        everyLength();
        longerThanTheStem();
        everyLeastTop();
        leastTopInBucking();
        bothEndsAreCovered();
        everyClass();
        againPricesAre0();
        othersKeepTheirPrices();
        priceNumbers();
        noSuchKindYet();
        untoldPricesAre0();
        everyPriceIsItsOwn();
        refusedPriceChangesNothing();
        CHECKS.end();
    }

    private static void kindNumbers() {
        CHECKS.range("kind", 0, 5, kind -> new StemMill(9).logKind(kind, 1, 0));
        CHECKS.range("length", 1, 60, length -> new StemMill(9).logKind(3, length, 900));
        CHECKS.range("top", 0, 900, top -> new StemMill(9).logKind(5, 60, top));
    }

    private static void refusedKindIsNone() {
        StemMill mill = new StemMill(9);
        for (int kind = 0; kind < 6; kind++) {
            CHECKS.refused("length 0", mill.logKind(kind, 0, 0));
            CHECKS.refused("length 61", mill.logKind(kind, 61, 0));
            CHECKS.refused("top -1", mill.logKind(kind, 1, -1));
            CHECKS.refused("top 901", mill.logKind(kind, 1, 901));
            CHECKS.refused("still no such kind", mill.priceOf(kind, 1, 1, 1));
            CHECKS.due("by hand", mill.byHand(kind + 1), StemMill.NONE);
        }
    }

    private static void refusedKindChangesNothing() {
        StemMill mill = new StemMill(9);
        mill.logKind(2, 9, 50);
        mill.priceOf(2, 1, 1, 8);
        int[][] wrong = {{2, 0, 0}, {2, 61, 0}, {2, 1, -1}, {2, 1, 901}, {8, 1, 0}, {-4, 1, 0}};
        for (int[] one : wrong) {
            CHECKS.refused("logKind", mill.logKind(one[0], one[1], one[2]));
            CHECKS.due("as long, and at its price, as before", mill.byHand(3), 8);
            CHECKS.due("and no shorter", mill.byHand(9), StemMill.NONE);
        }
    }

    /** A log of a kind from point s covers the points s .. s + length. */
    private static void everyLength() {
        for (int length = 1; length <= 60; length++) {
            StemMill mill = new StemMill(length + 3);
            CHECKS.taken("length " + length, mill.logKind(4, length, 0));
            mill.priceOf(4, 1, 1, length);
            CHECKS.due("from the butt", mill.byHand(5), length);
            CHECKS.due("to the last point", mill.byHand(5 + 18), length);
            CHECKS.due("a point farther", mill.byHand(5 + 24), StemMill.NONE);
            // Two logs cover 2 * length + 2 of the stem's length + 4 points.
            boolean two = length <= 2;
            CHECKS.due("buck()", mill.buck(), two ? 2 * length : length);
            CHECKS.due("its first point", mill.log(0, 0), two ? 2 - length : 3);
        }
    }

    private static void longerThanTheStem() {
        StemMill mill = new StemMill(59);
        CHECKS.taken("a kind that never stands in the stem", mill.logKind(0, 60, 0));
        CHECKS.taken("and has its price", mill.priceOf(0, 1, 1, 5));
        CHECKS.due("by hand", mill.byHand(1), StemMill.NONE);
        CHECKS.due("buck()", mill.buck(), 0);
        CHECKS.due("logs()", mill.logs(), 0);
    }

    /** Its top is at least the kind's. */
    private static void everyLeastTop() {
        int[] tops = {50, 51, 99, 100, 449, 450, 899, 900};
        for (int top : tops) {
            StemMill mill = Mills.withLog(top, 1);
            mill.logKind(1, 1, top);
            mill.logKind(2, 1, top - 1);
            CHECKS.due("the top that is asked for", mill.byHand(2), 0);
            CHECKS.due("less is asked for", mill.byHand(3), 0);
            if (top < 900) {
                mill.logKind(3, 1, top + 1);
                CHECKS.due("a millimetre too little", mill.byHand(4), StemMill.NONE);
            }
        }
        StemMill least = new StemMill(1);
        least.logKind(0, 1, 0);
        CHECKS.due("nothing is asked for", least.byHand(1), 0);
    }

    private static void leastTopInBucking() {
        StemMill mill = new StemMill(4);
        for (int point = 0; point <= 4; point++) {
            mill.diameter(point, 140 - 10 * point);
        }
        mill.logKind(0, 1, 120);
        mill.priceOf(0, 2, 1, 10);
        CHECKS.due("buck()", mill.buck(), 10);
        CHECKS.due("the last log of top 120", mill.log(0, 0), 1);
        mill.logKind(0, 1, 131);
        mill.priceOf(0, 2, 1, 10);
        CHECKS.due("no log of top 131", mill.buck(), 0);
        mill.logKind(0, 1, 130);
        mill.priceOf(0, 2, 1, 10);
        CHECKS.due("one of top 130", mill.buck(), 10);
        CHECKS.due("it begins at the butt", mill.log(0, 0), 0);
    }

    /** The top is the least, the grade the worst, of the points s .. s + length: both ends, and no others. */
    private static void bothEndsAreCovered() {
        for (int changed = 0; changed <= 8; changed++) {
            StemMill mill = new StemMill(8);
            for (int point = 0; point <= 8; point++) {
                mill.diameter(point, 500);
            }
            mill.diameter(changed, 80);
            mill.defect(changed, changed, 3);
            mill.logKind(0, 4, 0);
            mill.byHand(1 + 6 * 2);
            boolean covered = changed >= 2 && changed <= 6;
            CHECKS.due("top, point " + changed + " being thin", mill.log(0, 2), covered ? 80 : 500);
            CHECKS.due("class", mill.log(0, 3), covered ? 1 : 10);
            CHECKS.due("grade, point " + changed + " being bad", mill.log(0, 4), covered ? 3 : 1);
            mill.priceOf(0, 10, 1, 7);
            CHECKS.due("price", mill.byHand(1 + 6 * 2), covered ? 0 : 7);
        }
    }

    /** The class is the top divided by 50, rounded down. */
    private static void everyClass() {
        StemMill mill = null;
        for (int top = 50; top <= 900; top++) {
            if (mill == null || top % 100 == 0) {
                mill = pricedByClass();
            }
            mill.diameter(1, top);
            CHECKS.due("price of top " + top, mill.byHand(1), 1000 + top / 50);
            CHECKS.due("class of top " + top, mill.log(0, 3), top / 50);
        }
    }

    private static StemMill pricedByClass() {
        StemMill mill = Mills.withLog(900, 1);
        for (int type = 0; type <= 18; type++) {
            mill.priceOf(0, type, 1, 1000 + type);
        }
        return mill;
    }

    private static void againPricesAre0() {
        for (int type = 1; type <= 18; type++) {
            for (int grade = 1; grade <= 3; grade++) {
                StemMill mill = Mills.withLog(type * 50, grade);
                mill.priceOf(0, type, grade, 9);
                CHECKS.due("price", mill.byHand(1), 9);
                CHECKS.taken("again, with the same numbers", mill.logKind(0, 1, 0));
                CHECKS.due("price", mill.byHand(1), 0);
                CHECKS.taken("told again", mill.priceOf(0, type, grade, 4));
                CHECKS.due("price", mill.byHand(1), 4);
            }
        }
    }

    private static void othersKeepTheirPrices() {
        StemMill mill = new StemMill(9);
        for (int kind = 0; kind < 6; kind++) {
            mill.logKind(kind, 1, 0);
            mill.priceOf(kind, 1, 1, 10 + kind);
        }
        for (int again = 0; again < 6; again++) {
            mill.logKind(again, 2, 0);
            for (int kind = 0; kind < 6; kind++) {
                CHECKS.due("price of kind " + kind, mill.byHand(kind + 1), kind > again ? 10 + kind : 0);
            }
        }
    }

    private static StemMill withKind(int kind) {
        StemMill mill = new StemMill(9);
        mill.logKind(kind, 1, 0);
        return mill;
    }

    private static void priceNumbers() {
        StemMill all = new StemMill(9);
        for (int kind = 0; kind < 6; kind++) {
            all.logKind(kind, 1, 0);
        }
        CHECKS.range("kind", 0, 5, kind -> all.priceOf(kind, 1, 1, 1));
        CHECKS.range("class", 0, 18, type -> withKind(2).priceOf(2, type, 1, 1));
        CHECKS.range("grade", 1, 3, grade -> withKind(2).priceOf(2, 18, grade, 1));
        CHECKS.range("cents", 0, 1000000, cents -> withKind(5).priceOf(5, 0, 3, cents));
    }

    private static void noSuchKindYet() {
        for (int told = 0; told < 6; told++) {
            StemMill mill = withKind(told);
            for (int kind = 0; kind < 6; kind++) {
                CHECKS.due("priceOf(" + kind + ", ..)", mill.priceOf(kind, 1, 1, 1) ? 1 : 0, kind == told ? 1 : 0);
            }
        }
    }

    private static void untoldPricesAre0() {
        for (int grade = 1; grade <= 3; grade++) {
            for (int type = 1; type <= 18; type++) {
                StemMill mill = Mills.withLog(type * 50 + (type < 18 ? 49 : 0), grade);
                CHECKS.due("class " + type + ", grade " + grade, mill.byHand(1), 0);
                CHECKS.due("price", mill.log(0, 5), 0);
            }
        }
    }

    private static void everyPriceIsItsOwn() {
        for (int grade = 1; grade <= 3; grade++) {
            for (int type = 1; type <= 18; type++) {
                StemMill mill = Mills.withLog(type * 50, grade);
                for (int other = 0; other < 19 * 3; other++) {
                    mill.priceOf(0, other / 3, other % 3 + 1, 100 + other);
                }
                CHECKS.due("class " + type + ", grade " + grade, mill.byHand(1), 100 + 3 * type + grade - 1);
            }
        }
    }

    private static void refusedPriceChangesNothing() {
        StemMill mill = Mills.withLog(100, 2);
        mill.priceOf(0, 2, 2, 1000000);
        int[][] wrong = {{0, 2, 2, -1}, {0, 2, 2, 1000001}, {0, 2, 0, 1}, {0, 2, 4, 1}, {0, 2, 5, 1}, {0, -1, 2, 1},
            {0, 19, 2, 1}, {0, 3, -1, 1}, {0, 1, 5, 1}, {6, 2, 2, 1}, {-1, 2, 2, 1}, {1, 2, 2, 1}};
        for (int[] one : wrong) {
            CHECKS.refused("priceOf", mill.priceOf(one[0], one[1], one[2], one[3]));
            CHECKS.due("the price is as it was", mill.byHand(1), 1000000);
        }
        CHECKS.taken("none again", mill.priceOf(0, 2, 2, 0));
        CHECKS.due("price", mill.byHand(1), 0);
    }
}
