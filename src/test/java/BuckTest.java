import java.util.ArrayList;
import java.util.List;

/** Promises 6 to 9: buck, byHand, logs, log. Cuttings are also weighed one by one against the rules. */
public final class BuckTest {
    private static final Checks CHECKS = new Checks("promises 6 to 9");

    public static void main(String[] args) {
        equalsGoFarthest();
        lowestKind();
        secondLogs();
        worthlessLogs();
        longest();
        byHand();
        byHandRefused();
        factsStay();
        manyCuttings();
        for (int seed = 1; seed <= 400; seed++) {
            new Weighed(seed).compare();
        }
        CHECKS.end();
    }

    private static void equalsGoFarthest() {
        StemMill mill = new StemMill(10);
        mill.logKind(0, 4, 0);
        mill.priceOf(0, 1, 1, 100);
        CHECKS.due("buck()", mill.buck(), 200);
        CHECKS.due("logs()", mill.logs(), 2);
        CHECKS.due("first log", mill.log(0, 0), 1);
        CHECKS.due("second log, a point behind the first one's last", mill.log(1, 0), 6);
        mill.logKind(0, 6, 0);
        mill.priceOf(0, 1, 1, 100);
        CHECKS.due("buck()", mill.buck(), 100);
        CHECKS.due("logs()", mill.logs(), 1);
        CHECKS.due("the only log ends at the last point", mill.log(0, 0), 4);
    }

    private static void lowestKind() {
        StemMill mill = new StemMill(5);
        for (int kind = 1; kind < 6; kind++) {
            mill.logKind(kind, 5, 0);
            mill.priceOf(kind, 1, 1, kind == 2 || kind == 4 ? 70 : 60);
        }
        CHECKS.due("buck()", mill.buck(), 70);
        CHECKS.due("kind", mill.log(0, 1), 2);
        CHECKS.due("first point", mill.log(0, 0), 0);
    }

    private static void secondLogs() {
        StemMill mill = new StemMill(6);
        mill.logKind(0, 2, 0);
        mill.logKind(1, 3, 0);
        mill.priceOf(0, 1, 1, 10);
        mill.priceOf(1, 1, 1, 10);
        CHECKS.due("two logs", mill.buck(), 20);
        // (0 from 1, 0 from 4) begins farthest; kind 1 first would leave no room behind point 1.
        CHECKS.due("first point", mill.log(0, 0), 1);
        CHECKS.due("first kind", mill.log(0, 1), 0);
        CHECKS.due("second point", mill.log(1, 0), 4);
        CHECKS.due("second kind", mill.log(1, 1), 0);
        mill.priceOf(1, 1, 1, 11);
        // Two of kind 1 need 8 points; one of each need 7: kind 0 first is the lower.
        CHECKS.due("one of each", mill.buck(), 21);
        CHECKS.due("first point", mill.log(0, 0), 0);
        CHECKS.due("first kind", mill.log(0, 1), 0);
        CHECKS.due("second point", mill.log(1, 0), 3);
        CHECKS.due("second kind", mill.log(1, 1), 1);
    }

    private static void worthlessLogs() {
        StemMill mill = new StemMill(10);
        mill.logKind(0, 1, 0);
        CHECKS.due("a log by hand may be worth nothing", mill.byHand(1), 0);
        CHECKS.due("logs()", mill.logs(), 1);
        CHECKS.due("buck()", mill.buck(), 0);
        CHECKS.due("no log is farther than any", mill.logs(), 0);
        CHECKS.missing("log(0, 0)", () -> mill.log(0, 0));
        CHECKS.missing("saw(0)", () -> mill.saw(0));
    }

    private static void longest() {
        StemMill mill = new StemMill(80);
        mill.logKind(3, 1, 0);
        mill.priceOf(3, 1, 1, 1000000);
        CHECKS.due("forty logs", mill.buck(), 40000000);
        CHECKS.due("logs()", mill.logs(), 40);
        CHECKS.due("first", mill.log(0, 0), 1);
        CHECKS.due("last", mill.log(39, 0), 79);
        CHECKS.missing("log(40, 0)", () -> mill.log(40, 0));
        mill.logKind(3, 60, 0);
        mill.priceOf(3, 1, 1, 5);
        CHECKS.due("the longest log", mill.buck(), 5);
        CHECKS.due("first", mill.log(0, 0), 20);
    }

    private static void byHand() {
        StemMill mill = new StemMill(80);
        for (int kind = 0; kind < 6; kind++) {
            mill.logKind(kind, kind + 1, 0);
            mill.priceOf(kind, 1, 1, 1 << kind);
        }
        CHECKS.due("all kinds one behind the other", mill.byHand(0x060504030201L), 63);
        int[] firsts = {0, 2, 5, 9, 14, 20};
        for (int i = 0; i < 6; i++) {
            CHECKS.due("first point", mill.log(i, 0), firsts[i]);
            CHECKS.due("kind", mill.log(i, 1), i);
            CHECKS.due("price", mill.log(i, 5), 1 << i);
        }
        CHECKS.due("zeros between are passed over", mill.byHand(0x0600000000000100L), 33);
        CHECKS.due("logs()", mill.logs(), 2);
        CHECKS.due("second log", mill.log(1, 0), 2);
        CHECKS.due("byte 255, no sign: kind 2, 42 points on", mill.byHand(255), 4);
        CHECKS.due("first point", mill.log(0, 0), 42);
        CHECKS.due("the highest byte", mill.byHand(0x8000000000000000L), 2);
        CHECKS.due("first point of byte 128", mill.log(0, 0), 21);
        CHECKS.due("eight logs", mill.byHand(0x0101010101010101L), 8);
        CHECKS.due("last of eight", mill.log(7, 0), 14);
        CHECKS.due("byte 13: kind 0, two points on, twice", mill.byHand(0x0D0D), 2);
        CHECKS.due("first log", mill.log(0, 0), 2);
        CHECKS.due("second log", mill.log(1, 0), 6);
        CHECKS.due("no logs", mill.byHand(0), 0);
        CHECKS.due("logs()", mill.logs(), 0);
    }

    private static void byHandRefused() {
        StemMill mill = new StemMill(10);
        mill.logKind(0, 4, 100);
        mill.diameter(0, 50);
        for (int point = 1; point <= 10; point++) {
            mill.diameter(point, 100);
        }
        mill.priceOf(0, 2, 1, 6);
        CHECKS.due("two logs", mill.byHand(0x0107), 12);
        long[] words = {1, 2, -1, 0x010107, 0x0207, 0x0707, 0xFF07};
        for (long word : words) {
            CHECKS.due("byHand(" + word + ")", mill.byHand(word), StemMill.NONE);
            CHECKS.due("logs()", mill.logs(), 2);
            CHECKS.due("first log", mill.log(0, 0), 1);
            CHECKS.due("second log", mill.log(1, 0), 6);
            CHECKS.due("price", mill.log(1, 5), 6);
        }
    }

    private static void factsStay() {
        StemMill mill = new StemMill(10);
        for (int point = 0; point <= 10; point++) {
            mill.diameter(point, 400 - point);
        }
        mill.logKind(2, 5, 0);
        mill.priceOf(2, 7, 2, 33);
        mill.defect(8, 8, 2);
        CHECKS.due("buck()", mill.buck(), 33);
        mill.diameter(9, 60);
        mill.defect(9, 9, 3);
        mill.priceOf(2, 7, 2, 44);
        mill.logKind(2, 3, 0);
        int[] due = {5, 2, 390, 7, 2, 33};
        for (int what = 0; what < 6; what++) {
            CHECKS.due("log(0, " + what + ")", mill.log(0, what), due[what]);
        }
        CHECKS.missing("log(0, 6)", () -> mill.log(0, 6));
        CHECKS.missing("log(0, -1)", () -> mill.log(0, -1));
        CHECKS.missing("log(1, 0)", () -> mill.log(1, 0));
        CHECKS.missing("log(-1, 0)", () -> mill.log(-1, 0));
        CHECKS.missing("log(least, 0)", () -> mill.log(Integer.MIN_VALUE, 0));
        CHECKS.missing("log(most, most)", () -> mill.log(Integer.MAX_VALUE, Integer.MAX_VALUE));
    }

    private static void manyCuttings() {
        StemMill mill = new StemMill(10);
        mill.logKind(0, 4, 0);
        mill.priceOf(0, 1, 1, 100);
        for (int i = 0; i < 3; i++) {
            CHECKS.due("buck()", mill.buck(), 200);
            CHECKS.due("logs()", mill.logs(), 2);
            CHECKS.due("first log", mill.log(0, 0), 1);
            CHECKS.due("byHand(13)", mill.byHand(13), 100);
            CHECKS.due("logs()", mill.logs(), 1);
            CHECKS.due("first log", mill.log(0, 0), 2);
            CHECKS.due("byHand(1, 2)", mill.byHand(0x0201), StemMill.NONE);
            CHECKS.due("logs()", mill.logs(), 1);
            CHECKS.due("first log", mill.log(0, 0), 2);
        }
    }

    /** A small stem whose cuttings are all made and compared by the document's words. */
    private static final class Weighed {
        private final int seed;
        private final int n;
        private final int[] diameters;
        private final int[] grades;
        private final int[] lengths = new int[6];
        private final int[] tops = new int[6];
        private final int[][] prices = new int[6][19 * 4];
        private final StemMill mill;
        private List<int[]> best = new ArrayList<>();
        private int bestValue = 0;

        Weighed(int seed) {
            this.seed = seed;
            Dice dice = new Dice(seed);
            n = dice.between(1, 11);
            mill = new StemMill(n);
            diameters = new int[n + 1];
            grades = new int[n + 1];
            for (int point = 0; point <= n; point++) {
                diameters[point] = dice.between(50, 260);
                grades[point] = 1;
                mill.diameter(point, diameters[point]);
            }
            for (int i = dice.roll(3); i > 0; i--) {
                int from = dice.between(0, n);
                int to = dice.between(from, n);
                int grade = dice.between(2, 3);
                mill.defect(from, to, grade);
                for (int point = from; point <= to; point++) {
                    grades[point] = Math.max(grades[point], grade);
                }
            }
            for (int i = dice.between(1, 6); i > 0; i--) {
                int kind = dice.roll(6);
                lengths[kind] = dice.between(1, 4);
                tops[kind] = dice.roll(3) == 0 ? dice.between(0, 200) : 0;
                mill.logKind(kind, lengths[kind], tops[kind]);
                for (int slot = 0; slot < 19 * 4; slot++) {
                    boolean told = slot % 4 > 0 && mill.priceOf(kind, slot / 4, slot % 4, slot % 7 % 3);
                    prices[kind][slot] = told ? slot % 7 % 3 : 0;
                }
            }
        }

        void compare() {
            extend(new ArrayList<>(), 0, 0);
            CHECKS.due("seed " + seed + " buck()", mill.buck(), bestValue);
            CHECKS.due("seed " + seed + " logs()", mill.logs(), best.size());
            for (int i = 0; i < best.size() && i < mill.logs(); i++) {
                for (int what = 0; what < 6; what++) {
                    CHECKS.due("seed " + seed + " log(" + i + ", " + what + ")", mill.log(i, what), best.get(i)[what]);
                }
            }
        }

        private void extend(List<int[]> logs, int from, int value) {
            if (value > bestValue || value == bestValue && isBefore(logs, best)) {
                best = new ArrayList<>(logs);
                bestValue = value;
            }
            for (int first = from; first <= n; first++) {
                for (int kind = 0; kind < 6; kind++) {
                    int[] log = logAt(first, kind);
                    if (log != null) {
                        logs.add(log);
                        extend(logs, first + lengths[kind] + 1, value + log[5]);
                        logs.remove(logs.size() - 1);
                    }
                }
            }
        }

        private int[] logAt(int first, int kind) {
            if (lengths[kind] == 0 || first + lengths[kind] > n) {
                return null;
            }
            int top = 900;
            int grade = 1;
            for (int point = first; point <= first + lengths[kind]; point++) {
                top = Math.min(top, diameters[point]);
                grade = Math.max(grade, grades[point]);
            }
            int price = prices[kind][top / 50 * 4 + grade];
            return top < tops[kind] ? null : new int[] {first, kind, top, top / 50, grade, price};
        }

        private static boolean isBefore(List<int[]> a, List<int[]> b) {
            for (int i = 0; i < a.size() || i < b.size(); i++) {
                int aFirst = i < a.size() ? a.get(i)[0] : 1000;
                int bFirst = i < b.size() ? b.get(i)[0] : 1000;
                if (aFirst != bFirst) {
                    return aFirst > bFirst;
                }
                if (a.get(i)[1] != b.get(i)[1]) {
                    return a.get(i)[1] < b.get(i)[1];
                }
            }
            return false;
        }
    }
}
