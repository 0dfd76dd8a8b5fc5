import java.util.ArrayList;
import java.util.HashMap;
import java.util.List;
import java.util.Map;

/**
 * The document's rules once more, written for plainness alone: whole lists are compared, nothing is used again.
 * Calls that are refused answer 0 or NONE; where the document asks for an exception, the answer is MISSING.
 */
final class Model {
    static final long MISSING = Long.MIN_VALUE;
    private static final int NO_CANT = Integer.MAX_VALUE;

    private final int n;
    private final Map<Integer, Integer> diameters = new HashMap<>();
    private final List<int[]> defects = new ArrayList<>();
    private final Map<Integer, int[]> kinds = new HashMap<>();
    private final Map<List<Integer>, Integer> logPrices = new HashMap<>();
    private List<int[]> bucked = new ArrayList<>();

    private final Map<Integer, int[]> sizes = new HashMap<>();
    private final Map<List<Integer>, Integer> boardPrices = new HashMap<>();
    private final Map<Integer, Integer> heights = new HashMap<>();
    private int kerf = 0;
    private final Map<Integer, Integer> needs = new HashMap<>();
    private final Map<Integer, int[]> ladder = new HashMap<>();
    private List<int[]> pattern = new ArrayList<>();
    private int cant = -1;

    Model(int n) {
        this.n = n < 1 || n > 80 ? 40 : n;
    }

    private static boolean in(long number, long low, long high) {
        return low <= number && number <= high;
    }

    long diameter(int point, int mm) {
        if (!in(point, 0, n) || !in(mm, 50, 900)) {
            return 0;
        }
        diameters.put(point, mm);
        return 1;
    }

    long defect(int from, int to, int grade) {
        if (!in(from, 0, n) || !in(to, 0, n) || from > to || !in(grade, 2, 3) || defects.size() == 20) {
            return 0;
        }
        defects.add(new int[] {from, to, grade});
        return 1;
    }

    long logKind(int kind, int length, int top) {
        if (!in(kind, 0, 5) || !in(length, 1, 60) || !in(top, 0, 900)) {
            return 0;
        }
        kinds.put(kind, new int[] {length, top});
        logPrices.keySet().removeIf(key -> key.get(0) == kind);
        return 1;
    }

    long priceOf(int kind, int type, int grade, int cents) {
        if (!kinds.containsKey(kind) || !in(type, 0, 18) || !in(grade, 1, 3) || !in(cents, 0, 1000000)) {
            return 0;
        }
        logPrices.put(List.of(kind, type, grade), cents);
        return 1;
    }

    /** First point, kind, top, class, grade, price; null if there is no such log. */
    private int[] logAt(int first, int kind) {
        int[] told = kinds.get(kind);
        if (told == null || first + told[0] > n) {
            return null;
        }
        int top = 900;
        int grade = 1;
        for (int point = first; point <= first + told[0]; point++) {
            top = Math.min(top, diameters.getOrDefault(point, 50));
            for (int[] defect : defects) {
                if (in(point, defect[0], defect[1])) {
                    grade = Math.max(grade, defect[2]);
                }
            }
        }
        if (top < told[1]) {
            return null;
        }
        int type = top / 50;
        return new int[] {first, kind, top, type, grade, logPrices.getOrDefault(List.of(kind, type, grade), 0)};
    }

    long buck() {
        List<List<int[]>> best = new ArrayList<>();
        for (int point = 0; point <= n + 1; point++) {
            best.add(new ArrayList<>());
        }
        for (int point = n; point >= 0; point--) {
            List<int[]> chosen = best.get(point + 1);
            for (int kind = 0; kind < 6; kind++) {
                int[] log = logAt(point, kind);
                if (log != null) {
                    List<int[]> cutting = new ArrayList<>();
                    cutting.add(log);
                    cutting.addAll(best.get(point + kinds.get(kind)[0] + 1));
                    chosen = isBetterCutting(cutting, chosen) ? cutting : chosen;
                }
            }
            best.set(point, chosen);
        }
        bucked = best.get(0);
        return value(bucked, 5);
    }

    private static boolean isBetterCutting(List<int[]> a, List<int[]> b) {
        if (value(a, 5) != value(b, 5)) {
            return value(a, 5) > value(b, 5);
        }
        for (int i = 0; i < a.size(); i++) {
            if (i == b.size()) {
                return false;
            }
            if (a.get(i)[0] != b.get(i)[0]) {
                return a.get(i)[0] > b.get(i)[0];
            }
            if (a.get(i)[1] != b.get(i)[1]) {
                return a.get(i)[1] < b.get(i)[1];
            }
        }
        return a.size() < b.size();
    }

    private static long value(List<int[]> things, int price) {
        long sum = 0;
        for (int[] thing : things) {
            sum += thing[price];
        }
        return sum;
    }

    long byHand(long word) {
        List<int[]> cutting = new ArrayList<>();
        int may = 0;
        for (long rest = word; rest != 0; rest >>>= 8) {
            int b = (int) (rest & 0xFF);
            if (b != 0) {
                int[] log = logAt(may + (b - 1) / 6, (b - 1) % 6);
                if (log == null) {
                    return -1;
                }
                cutting.add(log);
                may = log[0] + kinds.get(log[1])[0] + 1;
            }
        }
        bucked = cutting;
        return value(bucked, 5);
    }

    long logs() {
        return bucked.size();
    }

    long log(int i, int what) {
        return in(i, 0, bucked.size() - 1) && in(what, 0, 5) ? bucked.get(i)[what] : MISSING;
    }

    long size(int size, int thickness, int width) {
        if (!in(size, 0, 5) || !in(thickness, 50, 4000) || !in(width, 50, 4000)) {
            return 0;
        }
        sizes.put(size, new int[] {thickness, width});
        boardPrices.keySet().removeIf(key -> key.get(0) == size);
        return 1;
    }

    long boardPrice(int size, int grade, int cents) {
        if (!sizes.containsKey(size) || !in(grade, 1, 3) || !in(cents, 0, 1000000)) {
            return 0;
        }
        boardPrices.put(List.of(size, grade), cents);
        return 1;
    }

    long height(int i, int tenths) {
        if (!in(i, 0, 3) || !in(tenths, 300, 5000)) {
            return 0;
        }
        heights.put(i, tenths);
        return 1;
    }

    long kerf(int tenths) {
        if (!in(tenths, 0, 100)) {
            return 0;
        }
        kerf = tenths;
        return 1;
    }

    long need(int size, int pieces) {
        if (!in(size, 0, 5) || !in(pieces, 0, 1000)) {
            return 0;
        }
        needs.put(size, pieces);
        return 1;
    }

    long ladder(int step, int shortage, int addition) {
        if (!in(step, 0, 3) || !in(shortage, 0, 100000) || !in(addition, 0, 100000)) {
            return 0;
        }
        ladder.put(step, new int[] {shortage, addition});
        return 1;
    }

    long needNow(int size) {
        return in(size, 0, 5) ? needs.getOrDefault(size, 0) : -1;
    }

    /** The price of a size in a log of this grade, with the addition. */
    private int priceNow(int size, int grade) {
        if (!sizes.containsKey(size)) {
            return 0;
        }
        int addition = 0;
        for (int[] step : ladder.values()) {
            if (step[0] != 0 && step[0] <= needNow(size)) {
                addition = Math.max(addition, step[1]);
            }
        }
        return boardPrices.getOrDefault(List.of(size, grade), 0) + addition;
    }

    long saw(int i) {
        if (!in(i, 0, bucked.size() - 1)) {
            return MISSING;
        }
        long across = 10L * bucked.get(i)[2];
        int[] prices = new int[6];
        for (int size = 0; size < 6; size++) {
            prices[size] = priceNow(size, bucked.get(i)[4]);
        }
        Line stack = new Stacks(prices, across, NO_CANT).best(0, true);
        Line row = new Line();
        long most = stack.value;
        int height = NO_CANT;
        for (int tried : heights.values()) {
            Line triedRow = new Rows(prices, across, tried).best(0, true);
            Line triedStack = new Stacks(prices, across, tried).best(tried, false);
            long value = triedRow.value + 2 * triedStack.value;
            if (triedRow.size >= 0 && (value > most || value == most && tried < height)) {
                most = value;
                height = tried;
                row = triedRow;
                stack = triedStack;
            }
        }
        keep(prices, height, row, stack);
        return most;
    }

    private void keep(int[] prices, int height, Line row, Line stack) {
        pattern = new ArrayList<>();
        cant = height == NO_CANT ? -1 : height;
        int left = 0;
        for (Line line = row; line.size >= 0; line = line.rest) {
            pattern.add(new int[] {line.size, 0, left, prices[line.size]});
            left += sizes.get(line.size)[0] + kerf;
        }
        for (int where = 1; where <= (height == NO_CANT ? 1 : 2); where++) {
            int face = height == NO_CANT ? -2 * kerf : height;
            for (Line line = stack; line.size >= 0; line = line.rest) {
                face += 2 * kerf + 2 * sizes.get(line.size)[0];
                pattern.add(new int[] {line.size, where, face, prices[line.size]});
            }
        }
        for (int[] board : pattern) {
            needs.put(board[0], (int) Math.max(0, needNow(board[0]) - 1));
        }
    }

    long boards() {
        return pattern.size();
    }

    long board(int i, int what) {
        return in(i, 0, pattern.size() - 1) && in(what, 0, 3) ? pattern.get(i)[what] : MISSING;
    }

    long cant() {
        return cant;
    }

    long fits(int size, int count, int top) {
        if (!sizes.containsKey(size) || !in(count, 1, 200) || !in(top, 50, 900)) {
            return 0;
        }
        long row = (long) count * sizes.get(size)[0] + (long) (count - 1) * kerf;
        long width = sizes.get(size)[1];
        return row * row + width * width <= 100L * top * top ? 1 : 0;
    }

    /** A board and those behind it; size -1 where there is none. */
    private static final class Line {
        private final int size;
        private final Line rest;
        private final long value;

        Line() {
            size = -1;
            rest = null;
            value = 0;
        }

        Line(int size, int price, Line rest) {
            this.size = size;
            this.rest = rest;
            value = price + rest.value;
        }
    }

    /** All lines of boards of one sort; the best from each place on is kept. */
    private abstract class Lines {
        final int[] prices;
        final long across;
        final int height;
        private final Map<Integer, Line> known = new HashMap<>();

        Lines(int[] prices, long across, int height) {
            this.prices = prices;
            this.across = across;
            this.height = height;
        }

        /** Where a board that is laid at a place ends; -1 if it may not lie there. */
        abstract int end(int size, int place, boolean first);

        Line best(int place, boolean first) {
            Line best = first ? null : known.get(place);
            if (best != null) {
                return best;
            }
            best = new Line();
            // From the highest size down: of equal values the lowest size is taken last.
            for (int size = 5; size >= 0; size--) {
                int end = prices[size] > 0 ? end(size, place, first) : -1;
                if (end >= 0) {
                    Line line = new Line(size, prices[size], best(end, false));
                    best = line.value >= best.value ? line : best;
                }
            }
            if (!first) {
                known.put(place, best);
            }
            return best;
        }
    }

    /** Places are widths; the first board has no neighbour. */
    private final class Rows extends Lines {
        Rows(int[] prices, long across, int height) {
            super(prices, across, height);
        }

        @Override
        int end(int size, int place, boolean first) {
            int end = place + (first ? 0 : kerf) + sizes.get(size)[0];
            boolean inside = (long) end * end + (long) height * height <= across * across;
            return inside && sizes.get(size)[1] == height ? end : -1;
        }
    }

    /** Places are twice the distance of a face from the middle. */
    private final class Stacks extends Lines {
        Stacks(int[] prices, long across, int height) {
            super(prices, across, height);
        }

        @Override
        int end(int size, int place, boolean first) {
            int end = place + (first ? 0 : 2 * kerf) + 2 * sizes.get(size)[0];
            long width = sizes.get(size)[1];
            return width * width + (long) end * end <= across * across ? end : -1;
        }
    }
}
