import java.util.Arrays;
import java.util.NoSuchElementException;

/**
 * A mill for stems: a stem is cut across into logs that are worth the most, a log is sawn
 * lengthwise into boards that are worth the most, and orders that are short add to the price.
 */
public final class StemMill {
    public static final int NONE = -1;

    private static final int LONGEST_STEM = 80;
    private static final int USUAL_STEM = 40;
    private static final int LEAST_DIAMETER = 50;
    private static final int MOST_DIAMETER = 900;
    private static final int MOST_DEFECTS = 20;
    private static final int SOUND = 1;
    private static final int GRADES = 3;

    private static final int KINDS = 6;
    private static final int LONGEST_LOG = 60;
    private static final int CLASSES = 19;
    private static final int CLASS_WIDTH = 50;
    private static final int MOST_CENTS = 1000000;
    // A log covers two points at least, so 81 points hold 40 of them.
    private static final int MOST_LOGS = 40;
    private static final int LOG_FACTS = 6;

    private static final int SIZES = 6;
    private static final int LEAST_SIDE = 50;
    private static final int MOST_SIDE = 4000;
    private static final int HEIGHTS = 4;
    private static final int LEAST_HEIGHT = 300;
    private static final int MOST_HEIGHT = 5000;
    private static final int MOST_KERF = 100;
    private static final int TENTHS = 10;
    // The widest circle, 9000 tenths, over the thinnest board; a stack has half of it.
    private static final int MOST_IN_ROW = 180;
    private static final int MOST_IN_STACK = 90;
    private static final int BOARD_FACTS = 4;
    private static final int IN_CANT = 0;
    private static final int ABOVE = 1;
    private static final int BELOW = 2;
    private static final int MOST_ASKED = 200;

    private static final int STEPS = 4;
    private static final int MOST_PIECES = 1000;
    private static final int MOST_LADDER = 100000;

    private final Bucking bucking;
    private final Stem stem;
    private final LogKind[] kinds;
    private final Sawing sawing;
    private final BoardSize[] sizes;
    private final Orders orders;

    public StemMill(int n) {
        bucking = new Bucking(within(n, 1, LONGEST_STEM) ? n : USUAL_STEM);
        stem = bucking.stem;
        kinds = bucking.kinds;
        sawing = new Sawing();
        sizes = sawing.sizes;
        orders = sawing.orders;
    }

    public boolean diameter(int point, int mm) {
        if (!within(point, 0, stem.last) || !within(mm, LEAST_DIAMETER, MOST_DIAMETER)) {
            return false;
        }
        stem.diameters[point] = mm;
        return true;
    }

    public boolean defect(int from, int to, int grade) {
        if (!within(to, 0, stem.last) || !within(from, 0, to) || !within(grade, SOUND + 1, GRADES)) {
            return false;
        }
        return stem.spoil(from, to, grade);
    }

    public boolean logKind(int kind, int length, int top) {
        if (!within(kind, 0, KINDS - 1) || !within(length, 1, LONGEST_LOG) || !within(top, 0, MOST_DIAMETER)) {
            return false;
        }
        kinds[kind].become(length, top);
        return true;
    }

    public boolean priceOf(int kind, int type, int grade, int cents) {
        if (!within(kind, 0, KINDS - 1) || !kinds[kind].isTold() || !within(type, 0, CLASSES - 1)) {
            return false;
        }
        if (!within(grade, 1, GRADES) || !within(cents, 0, MOST_CENTS)) {
            return false;
        }
        kinds[kind].prices[LogKind.slot(type, grade)] = cents;
        return true;
    }

    public int buck() {
        return bucking.cutBest();
    }

    public int byHand(long word) {
        return bucking.cutAsTold(word);
    }

    public int logs() {
        return bucking.bucked.count;
    }

    public int log(int i, int what) throws NoSuchElementException {
        Cutting bucked = bucking.bucked;
        if (!within(i, 0, bucked.count - 1) || !within(what, 0, LOG_FACTS - 1)) {
            throw new NoSuchElementException();
        }
        return bucked.fact(i, what);
    }

    public boolean size(int size, int thickness, int width) {
        if (!within(size, 0, SIZES - 1) || !within(thickness, LEAST_SIDE, MOST_SIDE)) {
            return false;
        }
        if (!within(width, LEAST_SIDE, MOST_SIDE)) {
            return false;
        }
        sizes[size].become(thickness, width);
        return true;
    }

    public boolean boardPrice(int size, int grade, int cents) {
        if (!isToldSize(size) || !within(grade, 1, GRADES) || !within(cents, 0, MOST_CENTS)) {
            return false;
        }
        sizes[size].prices[grade - 1] = cents;
        return true;
    }

    public boolean height(int i, int tenths) {
        if (!within(i, 0, HEIGHTS - 1) || !within(tenths, LEAST_HEIGHT, MOST_HEIGHT)) {
            return false;
        }
        sawing.heights[i] = tenths;
        return true;
    }

    public boolean kerf(int tenths) {
        if (!within(tenths, 0, MOST_KERF)) {
            return false;
        }
        sawing.gap = tenths;
        return true;
    }

    public boolean need(int size, int pieces) {
        if (!within(size, 0, SIZES - 1) || !within(pieces, 0, MOST_PIECES)) {
            return false;
        }
        orders.needs[size] = pieces;
        return true;
    }

    public boolean ladder(int step, int shortage, int addition) {
        if (!within(step, 0, STEPS - 1) || !within(shortage, 0, MOST_LADDER) || !within(addition, 0, MOST_LADDER)) {
            return false;
        }
        orders.shortages[step] = shortage;
        orders.additions[step] = addition;
        return true;
    }

    public int needNow(int size) {
        return within(size, 0, SIZES - 1) ? orders.needs[size] : NONE;
    }

    public int saw(int i) throws NoSuchElementException {
        Cutting bucked = bucking.bucked;
        if (!within(i, 0, bucked.count - 1)) {
            throw new NoSuchElementException();
        }
        return sawing.sawThrough(bucked.fact(i, Cutting.TOP), bucked.fact(i, Cutting.GRADE));
    }

    public int boards() {
        return sawing.latest.count();
    }

    public int board(int i, int what) throws NoSuchElementException {
        Pattern latest = sawing.latest;
        if (!within(i, 0, latest.count() - 1) || !within(what, 0, BOARD_FACTS - 1)) {
            throw new NoSuchElementException();
        }
        return latest.fact(i, what);
    }

    public int cant() {
        return sawing.latest.height;
    }

    public boolean fits(int size, int n, int top) {
        // The top of a log is a diameter of the stem; only a kind may ask for less.
        if (!isToldSize(size) || !within(n, 1, MOST_ASKED) || !within(top, LEAST_DIAMETER, MOST_DIAMETER)) {
            return false;
        }
        BoardSize asked = sizes[size];
        int row = n * asked.thickness + (n - 1) * sawing.gap;
        return row <= room(TENTHS * top, asked.width);
    }

    private boolean isToldSize(int size) {
        return within(size, 0, SIZES - 1) && sizes[size].isTold();
    }

    private static boolean within(int number, int low, int high) {
        return number >= low && number <= high;
    }

    /** The other side of the largest rectangle with this side in a circle, rounded down; NONE if there is none. */
    private static int room(int across, int side) {
        int square = across * across - side * side;
        if (square < 0) {
            return NONE;
        }
        int root = 0;
        for (int bit = 1 << 13; bit > 0; bit >>= 1) {
            int tried = root + bit;
            if (tried * tried <= square) {
                root = tried;
            }
        }
        return root;
    }

    /** The points of the stem, and what logs from one of its points are like. */
    private static final class Stem {
        final int last;
        final int[] diameters;
        final int[] grades;
        int defects;
        // Both by the length of a log that begins where lookFrom was told to look.
        final int[] tops;
        final int[] worst;

        Stem(int last) {
            this.last = last;
            diameters = new int[last + 1];
            grades = new int[last + 1];
            tops = new int[last + 1];
            worst = new int[last + 1];
            for (int point = 0; point <= last; point++) {
                diameters[point] = LEAST_DIAMETER;
                grades[point] = SOUND;
            }
        }

        boolean spoil(int from, int to, int grade) {
            if (defects >= MOST_DEFECTS) {
                return false;
            }
            defects++;
            for (int point = from; point <= to; point++) {
                grades[point] = Math.max(grades[point], grade);
            }
            return true;
        }

        void lookFrom(int first) {
            int top = MOST_DIAMETER;
            int grade = SOUND;
            for (int point = first; point <= last; point++) {
                top = Math.min(top, diameters[point]);
                grade = Math.max(grade, grades[point]);
                tops[point - first] = top;
                worst[point - first] = grade;
            }
        }
    }

    /** A kind of logs; its length is 0 until it is told. */
    private static final class LogKind {
        int length;
        int leastTop;
        final int[] prices = new int[CLASSES * GRADES];

        boolean isTold() {
            return length > 0;
        }

        void become(int length, int leastTop) {
            this.length = length;
            this.leastTop = leastTop;
            Arrays.fill(prices, 0);
        }

        static int slot(int type, int grade) {
            return type * GRADES + grade - 1;
        }
    }

    /** Logs as they were when they were bucked. */
    private static final class Cutting {
        static final int FIRST = 0;
        static final int KIND = 1;
        static final int TOP = 2;
        static final int CLASS = 3;
        static final int GRADE = 4;
        static final int PRICE = 5;

        int count;
        int value;
        final int[] facts = new int[MOST_LOGS * LOG_FACTS];

        void clear() {
            count = 0;
            value = 0;
        }

        void add(int first, int kind, int top, int grade, int price) {
            if (count >= MOST_LOGS) {
                return;
            }
            int at = count * LOG_FACTS;
            facts[at + FIRST] = first;
            facts[at + KIND] = kind;
            facts[at + TOP] = top;
            facts[at + CLASS] = top / CLASS_WIDTH;
            facts[at + GRADE] = grade;
            facts[at + PRICE] = price;
            count++;
            value += price;
        }

        int fact(int i, int what) {
            return facts[i * LOG_FACTS + what];
        }
    }

    /** Makes cuttings of the stem and keeps the latest. */
    private static final class Bucking {
        final Stem stem;
        final LogKind[] kinds = new LogKind[KINDS];
        // The greatest value of logs that begin at a point or behind it; one more point ends the stem.
        final int[] best;
        // The kind of the log that begins at a point in that cutting, NONE if none does.
        final int[] chosen;
        Cutting bucked = new Cutting();
        // A cutting that is refused halfway must leave the bucked one as it was.
        Cutting spare = new Cutting();

        Bucking(int last) {
            stem = new Stem(last);
            best = new int[last + 2];
            chosen = new int[last + 1];
            for (int kind = 0; kind < KINDS; kind++) {
                kinds[kind] = new LogKind();
            }
        }

        int cutBest() {
            for (int point = stem.last; point >= 0; point--) {
                choose(point);
            }
            spare.clear();
            int from = 0;
            for (int point = 0; point <= stem.last; point++) {
                if (point >= from && chosen[point] != NONE && addLog(chosen[point], point)) {
                    from = point + kinds[chosen[point]].length + 1;
                }
            }
            return keepSpare();
        }

        /** Only a greater value displaces: so a later first log, then a lower kind, wins among equals. */
        private void choose(int point) {
            stem.lookFrom(point);
            best[point] = best[point + 1];
            chosen[point] = NONE;
            for (int kind = 0; kind < KINDS; kind++) {
                int price = priceFrom(point, kinds[kind]);
                if (price == NONE) {
                    continue;
                }
                int value = price + best[point + kinds[kind].length + 1];
                if (value > best[point]) {
                    best[point] = value;
                    chosen[point] = kind;
                }
            }
        }

        int cutAsTold(long word) {
            spare.clear();
            int from = 0;
            for (int shift = 0; shift < 64; shift += 8) {
                int code = (int) (word >>> shift) & 255;
                if (code == 0) {
                    continue;
                }
                int kind = (code - 1) % KINDS;
                int first = from + (code - 1) / KINDS;
                if (!addLog(kind, first)) {
                    return NONE;
                }
                from = first + kinds[kind].length + 1;
            }
            return keepSpare();
        }

        private boolean addLog(int kind, int first) {
            if (first > stem.last) {
                return false;
            }
            stem.lookFrom(first);
            int price = priceFrom(first, kinds[kind]);
            if (price == NONE) {
                return false;
            }
            int length = kinds[kind].length;
            spare.add(first, kind, stem.tops[length], stem.worst[length], price);
            return true;
        }

        /** The price of a log from the point that the stem was just looked at from; NONE if it is not allowed. */
        private int priceFrom(int first, LogKind kind) {
            int length = kind.length;
            if (!kind.isTold() || first + length > stem.last || stem.tops[length] < kind.leastTop) {
                return NONE;
            }
            return kind.prices[LogKind.slot(stem.tops[length] / CLASS_WIDTH, stem.worst[length])];
        }

        private int keepSpare() {
            Cutting kept = spare;
            spare = bucked;
            bucked = kept;
            return kept.value;
        }
    }

    /** A size of boards; its thickness is 0 until it is told. */
    private static final class BoardSize {
        int thickness;
        int width;
        final int[] prices = new int[GRADES];

        boolean isTold() {
            return thickness > 0;
        }

        void become(int thickness, int width) {
            this.thickness = thickness;
            this.width = width;
            Arrays.fill(prices, 0);
        }
    }

    /** What is needed of each size, and what a shortage adds to the price. */
    private static final class Orders {
        final int[] needs = new int[SIZES];
        final int[] shortages = new int[STEPS];
        final int[] additions = new int[STEPS];

        int additionFor(int size) {
            int most = 0;
            for (int step = 0; step < STEPS; step++) {
                if (shortages[step] > 0 && shortages[step] <= needs[size]) {
                    most = Math.max(most, additions[step]);
                }
            }
            return most;
        }

        void deliver(int size, int pieces) {
            needs[size] = Math.max(0, needs[size] - pieces);
        }
    }

    /** Boards one behind the other, with a place for each. */
    private static final class Line {
        int count;
        final int[] sizes;
        final int[] places;

        Line(int most) {
            sizes = new int[most];
            places = new int[most];
        }

        void add(int size, int place) {
            if (count < sizes.length) {
                sizes[count] = size;
                places[count] = place;
                count++;
            }
        }

        int countOf(int size) {
            int found = 0;
            for (int i = 0; i < count; i++) {
                if (sizes[i] == size) {
                    found++;
                }
            }
            return found;
        }
    }

    /** A row in a cant and the stack above it, which stands again below it; or a stack alone. */
    private static final class Pattern {
        int height = NONE;
        int value;
        final Line row = new Line(MOST_IN_ROW);
        final Line stack = new Line(MOST_IN_STACK);
        final int[] prices = new int[SIZES];

        int stacks() {
            return height == NONE ? 1 : 2;
        }

        int count() {
            return row.count + stacks() * stack.count;
        }

        int countOf(int size) {
            return row.countOf(size) + stacks() * stack.countOf(size);
        }

        boolean isBetterThan(Pattern other) {
            if (value != other.value) {
                return value > other.value;
            }
            return height != NONE && (other.height == NONE || height < other.height);
        }

        int fact(int i, int what) {
            if (i < row.count) {
                return factOf(row, i, IN_CANT, what);
            }
            int above = i - row.count;
            if (above < stack.count) {
                return factOf(stack, above, ABOVE, what);
            }
            return factOf(stack, above - stack.count, BELOW, what);
        }

        private int factOf(Line line, int i, int where, int what) {
            switch (what) {
                case 0:
                    return line.sizes[i];
                case 1:
                    return where;
                case 2:
                    return line.places[i];
                default:
                    return prices[line.sizes[i]];
            }
        }
    }

    /**
     * The most valuable line of boards from place 0 on, where a board takes a step and may end
     * no farther than its size's limit. Rows and stacks differ in their limits alone.
     */
    private static final class Chain {
        // The widest row, 9000 tenths, and the kerf that its last board does not need.
        private static final int FARTHEST = 9100;
        private static final int REACHED = -1;

        final int[] steps = new int[SIZES];
        final int[] prices = new int[SIZES];
        final int[] limits = new int[SIZES];
        // What can be gained from a place on. Few places are reached at all: the others are neither worked out nor
        // read, so what an earlier chain left there does no harm; it leaves no place as REACHED.
        final int[] gains = new int[FARTHEST + 1];

        int solve() {
            int last = farthestLimit();
            gains[0] = REACHED;
            for (int place = 0; place <= last; place++) {
                if (gains[place] == REACHED) {
                    reachOnFrom(place);
                }
            }
            for (int place = last; place >= 0; place--) {
                if (gains[place] == REACHED) {
                    gains[place] = mostFrom(place);
                }
            }
            return gains[0];
        }

        /** Of the lines that gain the most, the one with the lowest size first, and so on. */
        void lay(Line line) {
            line.count = 0;
            int place = 0;
            for (int i = 0; i < MOST_IN_ROW; i++) {
                int size = lowestFrom(place);
                if (size == NONE) {
                    return;
                }
                line.add(size, place);
                place += steps[size];
            }
        }

        private int farthestLimit() {
            int last = 0;
            for (int size = 0; size < SIZES; size++) {
                limits[size] = Math.min(limits[size], FARTHEST);
                last = Math.max(last, limits[size]);
            }
            return last;
        }

        private void reachOnFrom(int place) {
            for (int size = 0; size < SIZES; size++) {
                int next = place + steps[size];
                if (next <= limits[size]) {
                    gains[next] = REACHED;
                }
            }
        }

        private int mostFrom(int place) {
            int most = 0;
            for (int size = 0; size < SIZES; size++) {
                int next = place + steps[size];
                if (next <= limits[size]) {
                    most = Math.max(most, prices[size] + gains[next]);
                }
            }
            return most;
        }

        private int lowestFrom(int place) {
            for (int size = 0; size < SIZES; size++) {
                int next = place + steps[size];
                if (next <= limits[size] && prices[size] + gains[next] == gains[place]) {
                    return size;
                }
            }
            return NONE;
        }
    }

    /** Makes patterns in logs and keeps the latest. */
    private static final class Sawing {
        final BoardSize[] sizes = new BoardSize[SIZES];
        final Orders orders = new Orders();
        // 0 until it is told.
        final int[] heights = new int[HEIGHTS];
        int gap;
        final Chain chain = new Chain();
        // Twice the farthest distance at which a side board's outer face lies in the circle; NONE if it never does.
        final int[] reaches = new int[SIZES];
        Pattern latest = new Pattern();
        Pattern trial = new Pattern();

        Sawing() {
            for (int size = 0; size < SIZES; size++) {
                sizes[size] = new BoardSize();
            }
        }

        int sawThrough(int top, int grade) {
            int across = TENTHS * top;
            prepare(across, grade);
            tryWithoutCant();
            keepTrial();
            for (int i = 0; i < HEIGHTS; i++) {
                if (heights[i] > 0 && tryHeight(heights[i], across) && trial.isBetterThan(latest)) {
                    keepTrial();
                }
            }
            for (int size = 0; size < SIZES; size++) {
                latest.prices[size] = chain.prices[size];
                orders.deliver(size, latest.countOf(size));
            }
            return latest.value;
        }

        private void prepare(int across, int grade) {
            for (int size = 0; size < SIZES; size++) {
                BoardSize board = sizes[size];
                chain.steps[size] = board.thickness + gap;
                chain.prices[size] = board.isTold() ? board.prices[grade - 1] + orders.additionFor(size) : 0;
                reaches[size] = room(across, board.width);
            }
        }

        private void tryWithoutCant() {
            trial.height = NONE;
            trial.row.count = 0;
            // The first board has no kerf ahead: a face that much below the middle makes up for it.
            trial.value = stackFrom(-2 * gap);
        }

        /** False if no board stands in a cant of that height: then there is no such cant. */
        private boolean tryHeight(int height, int across) {
            int widest = room(across, height);
            for (int size = 0; size < SIZES; size++) {
                boolean stands = sizes[size].width == height && chain.prices[size] > 0 && widest != NONE;
                chain.limits[size] = stands ? widest + gap : NONE;
            }
            int rowValue = chain.solve();
            if (rowValue == 0) {
                return false;
            }
            chain.lay(trial.row);
            trial.height = height;
            trial.value = rowValue + 2 * stackFrom(height);
            return true;
        }

        /** Stacks side boards on a face; faces are told as twice their distance from the middle. */
        private int stackFrom(int face) {
            for (int size = 0; size < SIZES; size++) {
                boolean stands = chain.prices[size] > 0 && reaches[size] != NONE && reaches[size] >= face;
                chain.limits[size] = stands ? (reaches[size] - face) / 2 : NONE;
            }
            int value = chain.solve();
            Line stack = trial.stack;
            chain.lay(stack);
            for (int i = 0; i < stack.count; i++) {
                stack.places[i] = face + 2 * (stack.places[i] + chain.steps[stack.sizes[i]]);
            }
            return value;
        }

        private void keepTrial() {
            Pattern kept = trial;
            trial = latest;
            latest = kept;
        }
    }
}
