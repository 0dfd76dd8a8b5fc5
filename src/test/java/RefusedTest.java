import java.util.ArrayList;
import java.util.List;
import java.util.NoSuchElementException;
import java.util.function.IntSupplier;

/**
 * Calls with numbers that are not as said are refused, changing nothing: an object that was also asked such a call
 * answers all that comes behind it like one that was not.
 */
public final class RefusedTest {
    private static final Checks CHECKS = new Checks("refused calls");
    private static final int[] OUTSIDE = {-1, Integer.MIN_VALUE, Integer.MAX_VALUE};

    private interface Call {
        /** True if the call was refused. */
        boolean on(StemMill mill);
    }

    private interface Probe {
        String of(StemMill mill);
    }

    public static void main(String[] args) {
        Probe[] probes = {RefusedTest::facts, RefusedTest::bucks, RefusedTest::saws, RefusedTest::logPrices,
            RefusedTest::boardPrices, RefusedTest::countsDefects};
        List<Call> refused = refusedCalls();
        CHECKS.taken("there are many: " + refused.size(), refused.size() > 150);
        for (Probe probe : probes) {
            compare("a mill at work", probe, refused, true);
            compare("a new mill", probe, refused, false);
        }
        CHECKS.end();
    }

    private static void compare(String name, Probe probe, List<Call> refused, boolean atWork) {
        String due = probe.of(atWork ? atWork() : new StemMill(5));
        for (int i = 0; i < refused.size(); i++) {
            StemMill mill = atWork ? atWork() : new StemMill(5);
            CHECKS.taken(name + ", call " + i + " is refused", refused.get(i).on(mill));
            CHECKS.taken(name + ", call " + i + " changed nothing", probe.of(mill).equals(due));
        }
    }

    /** Kinds 0, 2, 5 and sizes 1, 3, 4 are told, others not; two logs are bucked and the second is sawn. */
    private static StemMill atWork() {
        StemMill mill = new StemMill(5);
        for (int point = 0; point <= 5; point++) {
            mill.diameter(point, 149 - 5 * point);
        }
        mill.defect(1, 1, 2);
        mill.defect(0, 2, 2);
        mill.defect(5, 5, 3);
        int[] kinds = {0, 2, 5};
        for (int kind : kinds) {
            mill.logKind(kind, 1 + kind / 2, 20 * kind);
            for (int slot = 0; slot < 57; slot++) {
                mill.priceOf(kind, slot / 3, slot % 3 + 1, 100 * kind + slot);
            }
        }
        int[][] sizes = {{1, 150, 500}, {3, 60, 600}, {4, 50, 300}};
        for (int[] size : sizes) {
            mill.size(size[0], size[1], size[2]);
            for (int grade = 1; grade <= 3; grade++) {
                mill.boardPrice(size[0], grade, 10 * size[0] + grade);
            }
            mill.need(size[0], 20 + size[0]);
        }
        mill.height(1, 500);
        mill.height(2, 600);
        mill.kerf(30);
        mill.ladder(0, 15, 4);
        mill.ladder(3, 22, 7);
        mill.byHand(0x0301);
        mill.saw(1);
        return mill;
    }

    private static void tellAll(StringBuilder text, StemMill mill) {
        text.append(mill.logs()).append(" logs");
        for (int i = 0; i < mill.logs(); i++) {
            for (int what = 0; what < 6; what++) {
                text.append(' ').append(mill.log(i, what));
            }
        }
        text.append(", ").append(mill.boards()).append(" boards, cant ").append(mill.cant());
        for (int i = 0; i < mill.boards(); i++) {
            for (int what = 0; what < 4; what++) {
                text.append(' ').append(mill.board(i, what));
            }
        }
        for (int size = 0; size < 6; size++) {
            text.append(" need ").append(mill.needNow(size));
        }
    }

    private static String facts(StemMill mill) {
        StringBuilder text = new StringBuilder();
        tellAll(text, mill);
        for (int size = 0; size < 6; size++) {
            for (int top = 50; top <= 900; top += 50) {
                text.append(mill.fits(size, 2, top)).append(mill.fits(size, 5, top));
            }
        }
        return text.toString();
    }

    private static String bucks(StemMill mill) {
        StringBuilder text = new StringBuilder();
        text.append(mill.buck()).append(' ');
        tellAll(text, mill);
        for (int code = 1; code <= 36; code++) {
            text.append(" by hand ").append(mill.byHand(code)).append(' ').append(mill.logs());
        }
        tellAll(text, mill);
        return text.toString();
    }

    private static String saws(StemMill mill) {
        StringBuilder text = new StringBuilder();
        for (int i = 0; i < mill.logs(); i++) {
            text.append(mill.saw(i)).append(' ');
            tellAll(text, mill);
        }
        for (int step = 0; step < 4; step++) {
            mill.ladder(step, 0, 0);
            for (int size = 0; size < 6; size++) {
                mill.need(size, 500);
            }
            text.append(mill.logs() > 0 ? mill.saw(0) : 0).append(" without step ").append(step);
        }
        return text.toString();
    }

    private static String logPrices(StemMill mill) {
        StringBuilder text = new StringBuilder();
        for (int grade = 1; grade <= 3; grade++) {
            if (grade > 1) {
                mill.defect(0, 5, grade);
            }
            for (int type = 1; type <= 18; type++) {
                mill.diameter(0, 50 * type);
                mill.diameter(1, 900);
                text.append(' ').append(mill.byHand(1)).append(' ').append(mill.byHand(3)).append(' ');
                text.append(mill.byHand(6));
            }
        }
        return text.toString();
    }

    private static String boardPrices(StemMill mill) {
        StringBuilder text = new StringBuilder();
        for (int size = 0; size < 6; size++) {
            mill.need(size, 0);
        }
        for (int point = 0; point <= 5; point++) {
            mill.diameter(point, 200);
        }
        mill.logKind(1, 1, 0);
        for (int grade = 1; grade <= 3; grade++) {
            if (grade > 1) {
                mill.defect(0, 5, grade);
            }
            mill.byHand(2 + 6 * 3);
            text.append(mill.saw(0)).append(' ');
            tellAll(text, mill);
        }
        return text.toString();
    }

    private static String countsDefects(StemMill mill) {
        StringBuilder text = new StringBuilder();
        for (int i = 0; i < 22; i++) {
            text.append(mill.defect(3, 3, 2));
        }
        mill.logKind(1, 1, 0);
        for (int first = 0; first < 5; first++) {
            mill.byHand(2 + 6 * first);
            text.append(' ').append(mill.log(0, 4)).append(' ').append(mill.log(0, 2));
        }
        return text.toString();
    }

    private static List<Call> refusedCalls() {
        List<Call> calls = new ArrayList<>();
        for (int wrong : OUTSIDE) {
            wrongInAllPlaces(calls, wrong);
        }
        justOutside(calls);
        notYet(calls);
        return calls;
    }

    private static void wrongInAllPlaces(List<Call> calls, int wrong) {
        calls.add(mill -> !mill.diameter(wrong, 100));
        calls.add(mill -> !mill.diameter(3, wrong));
        calls.add(mill -> !mill.defect(wrong, 4, 3));
        calls.add(mill -> !mill.defect(4, wrong, 3));
        calls.add(mill -> !mill.defect(3, 4, wrong));
        calls.add(mill -> !mill.logKind(wrong, 2, 60));
        calls.add(mill -> !mill.logKind(0, wrong, 60));
        calls.add(mill -> !mill.logKind(2, 2, wrong));
        calls.add(mill -> !mill.priceOf(wrong, 2, 1, 77));
        calls.add(mill -> !mill.priceOf(0, wrong, 1, 77));
        calls.add(mill -> !mill.priceOf(2, 2, wrong, 77));
        calls.add(mill -> !mill.priceOf(5, 2, 1, wrong));
        calls.add(mill -> !mill.size(wrong, 70, 70));
        calls.add(mill -> !mill.size(1, wrong, 70));
        calls.add(mill -> !mill.size(3, 70, wrong));
        calls.add(mill -> !mill.boardPrice(wrong, 1, 77));
        calls.add(mill -> !mill.boardPrice(1, wrong, 77));
        calls.add(mill -> !mill.boardPrice(3, 2, wrong));
        calls.add(mill -> !mill.height(wrong, 600));
        calls.add(mill -> !mill.height(1, wrong));
        calls.add(mill -> !mill.kerf(wrong));
        calls.add(mill -> !mill.need(wrong, 5));
        calls.add(mill -> !mill.need(1, wrong));
        calls.add(mill -> !mill.ladder(wrong, 1, 9));
        calls.add(mill -> !mill.ladder(0, wrong, 9));
        calls.add(mill -> !mill.ladder(3, 1, wrong));
        calls.add(mill -> mill.needNow(wrong) == StemMill.NONE);
        calls.add(mill -> !mill.fits(wrong, 1, 100));
        calls.add(mill -> !mill.fits(1, wrong, 100));
        calls.add(mill -> !mill.fits(1, 1, wrong));
        calls.add(mill -> throwsNone(() -> mill.saw(wrong)));
        calls.add(mill -> throwsNone(() -> mill.log(wrong, 0)));
        calls.add(mill -> throwsNone(() -> mill.log(0, wrong)));
        calls.add(mill -> throwsNone(() -> mill.board(wrong, 0)));
        calls.add(mill -> throwsNone(() -> mill.board(0, wrong)));
    }

    private static void justOutside(List<Call> calls) {
        calls.add(mill -> !mill.diameter(6, 100));
        calls.add(mill -> !mill.diameter(3, 49));
        calls.add(mill -> !mill.diameter(3, 901));
        calls.add(mill -> !mill.defect(4, 6, 3));
        calls.add(mill -> !mill.defect(4, 3, 3));
        calls.add(mill -> !mill.defect(3, 4, 1));
        calls.add(mill -> !mill.defect(3, 4, 4));
        calls.add(mill -> !mill.defect(3, 4, 0));
        calls.add(mill -> !mill.logKind(6, 2, 60));
        calls.add(mill -> !mill.logKind(0, 0, 60));
        calls.add(mill -> !mill.logKind(0, 61, 60));
        calls.add(mill -> !mill.logKind(0, 2, 901));
        calls.add(mill -> !mill.priceOf(6, 2, 1, 77));
        calls.add(mill -> !mill.priceOf(0, 19, 1, 77));
        calls.add(mill -> !mill.priceOf(0, 2, 0, 77));
        calls.add(mill -> !mill.priceOf(0, 2, 4, 77));
        calls.add(mill -> !mill.priceOf(0, 2, 1, 1000001));
        calls.add(mill -> !mill.size(6, 70, 70));
        calls.add(mill -> !mill.size(1, 49, 70));
        calls.add(mill -> !mill.size(1, 4001, 70));
        calls.add(mill -> !mill.size(1, 70, 49));
        calls.add(mill -> !mill.size(1, 70, 4001));
        calls.add(mill -> !mill.boardPrice(6, 1, 77));
        calls.add(mill -> !mill.boardPrice(1, 0, 77));
        calls.add(mill -> !mill.boardPrice(1, 4, 77));
        calls.add(mill -> !mill.boardPrice(1, 1, 1000001));
        calls.add(mill -> !mill.height(4, 600));
        calls.add(mill -> !mill.height(1, 299));
        calls.add(mill -> !mill.height(1, 5001));
        calls.add(mill -> !mill.kerf(101));
        calls.add(mill -> !mill.need(6, 5));
        calls.add(mill -> !mill.need(1, 1001));
        calls.add(mill -> !mill.ladder(4, 1, 9));
        calls.add(mill -> !mill.ladder(0, 100001, 9));
        calls.add(mill -> !mill.ladder(0, 1, 100001));
        calls.add(mill -> mill.needNow(6) == StemMill.NONE);
        calls.add(mill -> !mill.fits(6, 1, 100));
        calls.add(mill -> !mill.fits(1, 0, 100));
        calls.add(mill -> !mill.fits(1, 201, 100));
        calls.add(mill -> !mill.fits(1, 1, 49));
        calls.add(mill -> !mill.fits(1, 1, 901));
        calls.add(mill -> throwsNone(() -> mill.saw(2)));
        calls.add(mill -> throwsNone(() -> mill.log(2, 0)));
        calls.add(mill -> throwsNone(() -> mill.log(0, 6)));
        calls.add(mill -> throwsNone(() -> mill.board(mill.boards(), 0)));
        calls.add(mill -> throwsNone(() -> mill.board(0, 4)));
    }

    /** Kinds and sizes that are not told yet, and words with a log that is not allowed. */
    private static void notYet(List<Call> calls) {
        int[] none = {1, 3, 4};
        for (int kind : none) {
            calls.add(mill -> !mill.priceOf(kind, 2, 1, 77));
            calls.add(mill -> mill.byHand(kind + 1) == StemMill.NONE);
        }
        int[] missing = {0, 2, 5};
        for (int size : missing) {
            calls.add(mill -> !mill.boardPrice(size, 1, 77));
            calls.add(mill -> !mill.fits(size, 1, 900));
        }
        long[] words = {-1, Long.MIN_VALUE, Long.MAX_VALUE, 0x020301, 0x010301010L, 0xFF, 0x0101010101L, 0x0202, 31,
            0x0701010101010101L};
        for (long word : words) {
            calls.add(mill -> mill.byHand(word) == StemMill.NONE);
        }
    }

    private static boolean throwsNone(IntSupplier call) {
        try {
            call.getAsInt();
            return false;
        } catch (NoSuchElementException e) {
            return true;
        }
    }
}
