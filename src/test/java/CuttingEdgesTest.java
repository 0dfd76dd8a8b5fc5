import java.util.NoSuchElementException;

/** The edges of promises 6 to 9, sentence by sentence: buck, byHand, logs, log. */
public final class CuttingEdgesTest {
    private static final Checks CHECKS = new Checks("edges of promises 6 to 9");

    public static void main(String[] args) {
        noLogsAtAll();
        anEmptyCuttingIsBuckedToo();
        shortestStem();
        onePointBehind();
        noPointInTwoLogs();
        fullStem();
        farthestFirst();
        thenTheLowestKind();
        thenTheSecondLogs();
        aWorthlessLogIsNeverBucked();
        everyByte();
        everyPlaceInTheWord();
        eightLogs();
        emptyWord();
        atMayBeginFromTheLogBefore();
        lastPointByHand();
        notAllowedByHand();
        refusedWordChangesNothing();
        logsBeforeAny();
        noSuchLog();
        noSuchWhat();
        asItWasWhenItWasBucked();
        CHECKS.end();
    }

    private static StemMill withKind(int n, int kind, int length, int cents) {
        StemMill mill = new StemMill(n);
        mill.logKind(kind, length, 0);
        mill.priceOf(kind, 1, 1, cents);
        return mill;
    }

    private static void cutting(String name, StemMill mill, int value, int[][] logs) {
        CHECKS.due(name + ": buck()", mill.buck(), value);
        CHECKS.due(name + ": logs()", mill.logs(), logs.length);
        for (int i = 0; i < logs.length && i < mill.logs(); i++) {
            CHECKS.due(name + ": first point of log " + i, mill.log(i, 0), logs[i][0]);
            CHECKS.due(name + ": kind of log " + i, mill.log(i, 1), logs[i][1]);
        }
    }

    /** Perhaps with no logs. */
    private static void noLogsAtAll() {
        cutting("no kinds", new StemMill(80), 0, new int[0][]);
        cutting("too long", withKind(9, 0, 10, 5), 0, new int[0][]);
        cutting("worth nothing", withKind(9, 0, 3, 0), 0, new int[0][]);
        StemMill thin = new StemMill(9);
        thin.logKind(0, 1, 51);
        thin.priceOf(0, 1, 1, 1000000);
        cutting("too thin", thin, 0, new int[0][]);
        StemMill bad = withKind(9, 0, 1, 5);
        bad.defect(0, 9, 2);
        cutting("of a grade without a price", bad, 0, new int[0][]);
    }

    private static void anEmptyCuttingIsBuckedToo() {
        StemMill mill = withKind(9, 0, 4, 5);
        CHECKS.due("two logs", mill.buck(), 10);
        mill.priceOf(0, 1, 1, 0);
        CHECKS.due("the cutting before is still the bucked one", mill.logs(), 2);
        CHECKS.due("none now", mill.buck(), 0);
        CHECKS.due("logs()", mill.logs(), 0);
        CHECKS.missing("log(0, 0)", () -> mill.log(0, 0));
        CHECKS.missing("saw(0)", () -> mill.saw(0));
    }

    private static void shortestStem() {
        cutting("one step", withKind(1, 5, 1, 1), 1, new int[][] {{0, 5}});
        cutting("two steps", withKind(2, 5, 1, 1), 1, new int[][] {{1, 5}});
        cutting("three steps", withKind(3, 5, 1, 1), 2, new int[][] {{0, 5}, {2, 5}});
    }

    /** Each beginning at least one point behind the last point of the one before. */
    private static void onePointBehind() {
        for (int length = 1; length <= 39; length++) {
            int cut = 2 * length + 1;
            cutting("two logs of " + length, withKind(cut, 1, length, 3), 6,
                new int[][] {{0, 1}, {length + 1, 1}});
            cutting("a point too few", withKind(cut - 1, 1, length, 3), 3, new int[][] {{length, 1}});
            cutting("a point more", withKind(cut + 1, 1, length, 3), 6, new int[][] {{1, 1}, {length + 2, 1}});
        }
    }

    private static void noPointInTwoLogs() {
        // Logs 0 .. 2 (class 2) and 2 .. 4 (class 1) would share point 2.
        StemMill mill = withKind(4, 0, 2, 3);
        mill.priceOf(0, 2, 1, 10);
        for (int point = 0; point <= 2; point++) {
            mill.diameter(point, 100);
        }
        cutting("the dearer one alone", mill, 10, new int[][] {{0, 0}});
        mill.priceOf(0, 1, 1, 10);
        cutting("the farther one alone", mill, 10, new int[][] {{2, 0}});
        CHECKS.due("nor by hand", mill.byHand(0x0101), StemMill.NONE);
        mill.logKind(1, 1, 0);
        CHECKS.due("a shorter second one", mill.byHand(0x0201), 10);
        CHECKS.due("begins a point behind", mill.log(1, 0), 3);
    }

    private static void fullStem() {
        StemMill mill = withKind(80, 0, 1, 1000000);
        CHECKS.due("forty logs", mill.buck(), 40000000);
        CHECKS.due("logs()", mill.logs(), 40);
        for (int i = 0; i < 40; i++) {
            CHECKS.due("log(" + i + ", 0)", mill.log(i, 0), 1 + 2 * i);
            CHECKS.due("log(" + i + ", 5)", mill.log(i, 5), 1000000);
        }
        CHECKS.missing("log(40, 0)", () -> mill.log(40, 0));
        cutting("the longest", withKind(80, 0, 60, 7), 7, new int[][] {{20, 0}});
        cutting("the longest in the shortest stem that holds it", withKind(60, 0, 60, 7), 7, new int[][] {{0, 0}});
    }

    /** Of several the one whose first log begins farthest from the butt, even if its kind is higher. */
    private static void farthestFirst() {
        StemMill mill = withKind(10, 0, 5, 10);
        mill.logKind(5, 3, 0);
        mill.priceOf(5, 1, 1, 10);
        mill.priceOf(0, 1, 1, 20);
        cutting("two short ones or a long one", mill, 30, new int[][] {{1, 0}, {7, 5}});
        mill.priceOf(5, 1, 1, 20);
        cutting("two short ones", mill, 40, new int[][] {{3, 5}, {7, 5}});
    }

    private static void thenTheLowestKind() {
        for (int lowest = 0; lowest < 6; lowest++) {
            StemMill mill = new StemMill(7);
            for (int kind = 5; kind >= lowest; kind--) {
                mill.logKind(kind, 7, 0);
                mill.priceOf(kind, 1, 1, 9);
            }
            cutting("kinds " + lowest + " .. 5", mill, 9, new int[][] {{0, lowest}});
        }
    }

    /** And so on with the second ones: where it begins, then its kind. */
    private static void thenTheSecondLogs() {
        StemMill mill = withKind(11, 0, 4, 10);
        mill.logKind(3, 5, 0);
        mill.priceOf(3, 1, 1, 10);
        mill.defect(0, 1, 3);
        // Logs from 2 on: 2 .. 6 and 7 .. 11 alone; the shorter kind, twice.
        cutting("no room to spare", mill, 20, new int[][] {{2, 0}, {7, 0}});
        StemMill spare = withKind(9, 4, 3, 10);
        spare.logKind(2, 3, 0);
        spare.priceOf(2, 1, 1, 10);
        spare.defect(2, 2, 3);
        spare.priceOf(4, 1, 3, 30);
        spare.priceOf(2, 1, 3, 30);
        // The bad log may begin at 2, the good one at 6: both of kind 2.
        cutting("both of the lower kind", spare, 40, new int[][] {{2, 2}, {6, 2}});
        spare.priceOf(4, 1, 1, 11);
        cutting("the second of the dearer kind", spare, 41, new int[][] {{2, 2}, {6, 4}});
        spare.priceOf(4, 1, 3, 31);
        cutting("both of the dearer kind", spare, 42, new int[][] {{2, 4}, {6, 4}});
    }

    /** No log is farther than any: at equal values a cutting without a log comes before one with it. */
    private static void aWorthlessLogIsNeverBucked() {
        StemMill mill = withKind(11, 3, 3, 10);
        mill.logKind(0, 1, 0);
        mill.defect(4, 7, 2);
        cutting("nothing in the gap", mill, 20, new int[][] {{0, 3}, {8, 3}});
        StemMill bad = withKind(11, 3, 3, 10);
        bad.logKind(0, 1, 0);
        bad.defect(8, 11, 2);
        cutting("nothing behind the last", bad, 20, new int[][] {{0, 3}, {4, 3}});
        bad.defect(0, 3, 2);
        cutting("nothing ahead of the first", bad, 10, new int[][] {{4, 3}});
    }

    private static StemMill sixKinds(int n) {
        StemMill mill = new StemMill(n);
        for (int kind = 0; kind < 6; kind++) {
            mill.logKind(kind, kind + 1, 0);
            mill.priceOf(kind, 1, 1, 1 << kind);
        }
        return mill;
    }

    /** A byte b says the kind (b - 1) modulo 6, and (b - 1) / 6 points. */
    private static void everyByte() {
        StemMill mill = sixKinds(80);
        for (int b = 1; b <= 255; b++) {
            if (b == 100 || b == 200) {
                mill = sixKinds(80);
            }
            int kind = (b - 1) % 6;
            CHECKS.due("byHand(" + b + ")", mill.byHand(b), 1 << kind);
            CHECKS.due("first point of byte " + b, mill.log(0, 0), (b - 1) / 6);
            CHECKS.due("kind of byte " + b, mill.log(0, 1), kind);
        }
    }

    private static void everyPlaceInTheWord() {
        StemMill mill = sixKinds(80);
        for (int place = 0; place < 8; place++) {
            int[] bytes = {1, 6, 7, 127, 128, 200, 254, 255};
            for (int b : bytes) {
                CHECKS.due("byte " + b + " at " + place, mill.byHand((long) b << 8 * place), 1 << (b - 1) % 6);
                CHECKS.due("logs()", mill.logs(), 1);
                CHECKS.due("first point", mill.log(0, 0), (b - 1) / 6);
            }
        }
        // The lowest byte is the first log, wherever zeros stand.
        CHECKS.due("bytes 2 and 1", mill.byHand(0x0100000000000002L), 3);
        CHECKS.due("first kind", mill.log(0, 1), 1);
        CHECKS.due("second kind", mill.log(1, 1), 0);
        CHECKS.due("second log", mill.log(1, 0), 3);
    }

    private static void eightLogs() {
        StemMill mill = sixKinds(15);
        CHECKS.due("eight logs in 16 points", mill.byHand(0x0101010101010101L), 8);
        CHECKS.due("logs()", mill.logs(), 8);
        CHECKS.due("the last", mill.log(7, 0), 14);
        CHECKS.missing("a ninth", () -> mill.log(8, 0));
        CHECKS.due("the last a point later", mill.byHand(0x0701010101010101L), StemMill.NONE);
        CHECKS.due("the last a step longer", mill.byHand(0x0201010101010101L), StemMill.NONE);
        CHECKS.due("the first a step longer", mill.byHand(0x0101010101010102L), StemMill.NONE);
        StemMill wide = sixKinds(80);
        CHECKS.due("eight of the longest cover 56 points", wide.byHand(0x0606060606060606L), 256);
        CHECKS.due("each three points on: 80", wide.byHand(0x1818181818181818L), 256);
        CHECKS.due("the last of them", wide.log(7, 0), 73);
        CHECKS.due("the last two points farther", wide.byHand(0x2418181818181818L), StemMill.NONE);
    }

    private static void emptyWord() {
        StemMill mill = sixKinds(20);
        CHECKS.due("three logs", mill.byHand(0x010101), 3);
        CHECKS.due("no logs are a cutting", mill.byHand(0), 0);
        CHECKS.due("logs()", mill.logs(), 0);
        CHECKS.missing("log(0, 0)", () -> mill.log(0, 0));
        CHECKS.due("without kinds, too", new StemMill(1).byHand(0), 0);
    }

    /** The first at which it may begin: 0, or the one behind the last point of the log before. */
    private static void atMayBeginFromTheLogBefore() {
        StemMill mill = sixKinds(80);
        CHECKS.due("kinds 5, 0 and 2", mill.byHand(0x0F0706), 32 + 1 + 4);
        CHECKS.due("first log: 0 .. 6", mill.log(0, 0), 0);
        CHECKS.due("second log, a point on from 7: 8 .. 9", mill.log(1, 0), 8);
        CHECKS.due("third log, two points on from 10", mill.log(2, 0), 12);
    }

    private static void lastPointByHand() {
        for (int n = 1; n <= 42; n++) {
            StemMill mill = withKind(n, 0, 1, 1);
            CHECKS.due("a log that ends at " + n, mill.byHand(1 + 6 * (n - 1)), 1);
            CHECKS.due("one that begins there", mill.byHand(1 + 6 * n), StemMill.NONE);
            CHECKS.due("logs()", mill.logs(), 1);
            CHECKS.due("first point", mill.log(0, 0), n - 1);
        }
        StemMill whole = withKind(80, 0, 39, 1);
        CHECKS.due("0 .. 39 and 41 .. 80", whole.byHand(0x0701), 2);
        CHECKS.due("41 .. 80", whole.log(1, 0), 41);
        CHECKS.due("0 .. 39 and 42 .. 81", whole.byHand(0x0D01), StemMill.NONE);
    }

    private static void notAllowedByHand() {
        StemMill mill = new StemMill(20);
        mill.logKind(1, 2, 100);
        for (int point = 5; point <= 12; point++) {
            mill.diameter(point, point == 8 ? 99 : 100);
        }
        for (int first = 0; first <= 20; first++) {
            boolean allowed = first == 5 || first == 9 || first == 10;
            CHECKS.due("a log from " + first, mill.byHand(2 + 6 * first), allowed ? 0 : StemMill.NONE);
        }
        CHECKS.due("a kind that is not told", mill.byHand(1 + 6 * 5), StemMill.NONE);
        CHECKS.due("two logs", mill.byHand((2 + 6) << 8 | 2 + 6 * 5), 0);
        CHECKS.due("the second is too thin", mill.byHand(2 << 8 | 2 + 6 * 5), StemMill.NONE);
        CHECKS.due("the second is not told", mill.byHand((3 + 6) << 8 | 2 + 6 * 5), StemMill.NONE);
    }

    private static void refusedWordChangesNothing() {
        StemMill mill = sixKinds(20);
        CHECKS.due("three logs", mill.byHand(0x010203), 7);
        long[] wrong = {-1, Long.MIN_VALUE, Long.MAX_VALUE, 0xFF, 0xFF01, 0x0606060606L, 0x7F00000000000000L,
            0x7001010101010103L};
        for (long word : wrong) {
            CHECKS.due("byHand(" + word + ")", mill.byHand(word), StemMill.NONE);
            CHECKS.due("logs()", mill.logs(), 3);
            int[] firsts = {0, 4, 7};
            for (int i = 0; i < 3; i++) {
                CHECKS.due("log(" + i + ", 0)", mill.log(i, 0), firsts[i]);
                CHECKS.due("log(" + i + ", 1)", mill.log(i, 1), 2 - i);
                CHECKS.due("log(" + i + ", 5)", mill.log(i, 5), 4 >> i);
            }
            CHECKS.missing("log(3, 0)", () -> mill.log(3, 0));
        }
    }

    private static void logsBeforeAny() {
        StemMill mill = sixKinds(20);
        CHECKS.due("logs()", mill.logs(), 0);
        CHECKS.due("a refused word is no cutting", mill.byHand(-1), StemMill.NONE);
        CHECKS.due("logs()", mill.logs(), 0);
        CHECKS.missing("log(0, 0)", () -> mill.log(0, 0));
    }

    private static boolean hasLog(StemMill mill, int i, int what) {
        try {
            mill.log(i, what);
            return true;
        } catch (NoSuchElementException e) {
            return false;
        }
    }

    private static void noSuchLog() {
        StemMill mill = sixKinds(20);
        CHECKS.range("log of none", 1, 0, i -> hasLog(mill, i, 0));
        mill.byHand(0x010203);
        for (int what = 0; what < 6; what++) {
            int fact = what;
            CHECKS.range("log of three", 0, 2, i -> hasLog(mill, i, fact));
        }
        mill.byHand(1);
        CHECKS.range("log of one", 0, 0, i -> hasLog(mill, i, 0));
    }

    private static void noSuchWhat() {
        StemMill mill = sixKinds(20);
        mill.byHand(0x010203);
        for (int i = 0; i < 3; i++) {
            int log = i;
            CHECKS.range("what of log " + i, 0, 5, what -> hasLog(mill, log, what));
        }
        CHECKS.range("what of no log", 1, 0, what -> hasLog(mill, 3, what));
    }

    private static void asItWasWhenItWasBucked() {
        StemMill mill = withKind(3, 4, 2, 6);
        CHECKS.due("buck()", mill.buck(), 6);
        mill.logKind(4, 60, 900);
        mill.priceOf(4, 1, 1, 7);
        for (int point = 0; point <= 3; point++) {
            mill.diameter(point, 900);
        }
        mill.defect(0, 3, 3);
        CHECKS.due("by hand no more", mill.byHand(5 + 6), StemMill.NONE);
        int[] due = {1, 4, 50, 1, 1, 6};
        for (int what = 0; what < 6; what++) {
            CHECKS.due("log(0, " + what + ")", mill.log(0, what), due[what]);
        }
    }
}
