import java.util.NoSuchElementException;

/** Runs of 512 calls with numbers at and just outside the edges: the program answers like the plain model. */
public final class ModelTest {
    private static final Checks CHECKS = new Checks("runs against the model");
    private static final int RUNS = 500;
    private static final int CALLS = 512;
    /** By call: how often it is drawn. Those that tell something come more often than those that ask. */
    private static final int[] OFTEN = {14, 3, 6, 14, 4, 4, 1, 5, 9, 10, 5, 2, 4, 4, 2, 12, 1, 8, 1, 3};

    /** Diameters of a run lie close together, so that the prices of few classes do for most logs. */
    private static final int[][] USUAL = {{50, 120}, {300, 420}, {840, 900}};

    private final int seed;
    private final Dice dice;
    private final int n;
    private final int narrow;
    private final StemMill mill;
    private final Model model;
    private int calls;
    private int sawn;

    private ModelTest(int seed) {
        this.seed = seed;
        dice = new Dice(seed * 1009L);
        n = dice.roll(4) == 0 ? edge(1, 80) : dice.between(1, 30);
        narrow = dice.roll(3);
        mill = new StemMill(n);
        model = new Model(n);
    }

    public static void main(String[] args) {
        int sawn = 0;
        for (int seed = 1; seed <= RUNS; seed++) {
            ModelTest run = new ModelTest(seed);
            if (seed % 4 > 0) {
                run.open();
            }
            while (run.calls < CALLS) {
                run.one(run.draw());
            }
            sawn += run.sawn;
        }
        CHECKS.taken("boards are sawn in these runs: " + sawn, sawn > 10 * RUNS);
        CHECKS.end();
    }

    /** Tells enough for logs and boards; most runs begin so. */
    private void open() {
        for (int point = 0; point <= last(); point++) {
            int mm = mm();
            ask("diameter", mill.diameter(point, mm), model.diameter(point, mm));
        }
        int[][] first = {{2, 12}, {3, 50}, {8, 8}, {9, 14}, {10, 3}, {11, 1}, {12, 4}, {13, 2}, {4, 1}};
        for (int[] one : first) {
            for (int i = 0; i < one[1]; i++) {
                one(one[0]);
            }
        }
    }

    private int last() {
        return n < 1 || n > 80 ? 40 : n;
    }

    /** Low, high, or a number between or just outside. */
    private int edge(int low, int high) {
        switch (dice.roll(16)) {
            case 0: return low;
            case 1: return high;
            case 2: return dice.roll(3) == 0 ? low - 1 : low;
            case 3: return dice.roll(3) == 0 ? high + 1 : high;
            case 4: return dice.roll(8) == 0 ? Integer.MIN_VALUE + dice.roll(2) : low;
            case 5: return dice.roll(8) == 0 ? Integer.MAX_VALUE - dice.roll(2) : high;
            default: return dice.between(low, high);
        }
    }

    private int number(int high) {
        return dice.roll(12) == 0 ? edge(0, high) : dice.between(0, high);
    }

    /** Few values, so that many cuttings and patterns are worth the same. */
    private int cents(int high) {
        return dice.roll(5) == 0 ? edge(0, high) : dice.roll(4);
    }

    private int mm() {
        return dice.roll(8) == 0 ? edge(50, 900) : dice.between(USUAL[narrow][0], USUAL[narrow][1]);
    }

    private int length() {
        return dice.roll(3) == 0 ? edge(1, 60) : dice.between(1, 6);
    }

    private int tenths() {
        return dice.roll(4) == 0 ? edge(50, 4000) : 50 * dice.between(1, narrow == 0 ? 12 : 30);
    }

    private int width() {
        return dice.roll(4) == 0 ? edge(50, 4000) : 100 * dice.between(3, narrow == 0 ? 6 : 12);
    }

    private int height() {
        return dice.roll(6) == 0 ? edge(300, 5000) : 100 * dice.between(3, narrow == 0 ? 6 : 12);
    }

    private long word() {
        long word = 0;
        for (int shift = 0; shift < 64; shift += 8) {
            int b = dice.roll(5) > 0 ? 0 : dice.roll(8) == 0 ? dice.between(0, 255) : dice.between(1, 18);
            word |= (long) b << shift;
        }
        return word;
    }

    private int draw() {
        int all = 0;
        for (int each : OFTEN) {
            all += each;
        }
        int drawn = dice.roll(all);
        int which = 0;
        while (drawn >= OFTEN[which]) {
            drawn -= OFTEN[which];
            which++;
        }
        return which;
    }

    private void one(int which) {
        if (which < 4) {
            tellStem(which);
        } else if (which < 8) {
            cut(which);
        } else if (which < 14) {
            tellMill(which);
        } else {
            sawOrAsk(which);
        }
    }

    private void tellStem(int which) {
        int last = last();
        if (which == 0) {
            int point = number(last);
            int mm = mm();
            ask("diameter", mill.diameter(point, mm), model.diameter(point, mm));
        } else if (which == 1) {
            int from = number(last);
            int to = dice.roll(3) == 0 ? number(last) : from + dice.roll(3);
            int grade = edge(2, 3);
            ask("defect", mill.defect(from, to, grade), model.defect(from, to, grade));
        } else if (which == 2) {
            int kind = number(5);
            int length = length();
            int top = dice.roll(3) == 0 ? edge(0, 900) : dice.roll(100);
            ask("logKind", mill.logKind(kind, length, top), model.logKind(kind, length, top));
        } else {
            int kind = number(5);
            int type = dice.roll(8) == 0 ? edge(0, 18) : dice.between(USUAL[narrow][0] / 50, USUAL[narrow][1] / 50);
            int grade = edge(1, 3);
            int cents = cents(1000000);
            ask("priceOf", mill.priceOf(kind, type, grade, cents), model.priceOf(kind, type, grade, cents));
        }
    }

    private void cut(int which) {
        if (which == 4) {
            ask("buck", mill.buck(), model.buck());
        } else if (which == 5) {
            long word = word();
            ask("byHand(" + word + ")", mill.byHand(word), model.byHand(word));
        } else if (which == 6) {
            ask("logs", mill.logs(), model.logs());
        } else {
            int i = edge(0, (int) model.logs());
            int what = edge(0, 5);
            ask("log(" + i + ", " + what + ")", log(i, what), model.log(i, what));
        }
    }

    private void tellMill(int which) {
        int size = number(5);
        if (which == 8) {
            int thickness = tenths();
            int width = width();
            ask("size", mill.size(size, thickness, width), model.size(size, thickness, width));
        } else if (which == 9) {
            int grade = edge(1, 3);
            int cents = cents(1000000);
            ask("boardPrice", mill.boardPrice(size, grade, cents), model.boardPrice(size, grade, cents));
        } else if (which == 10) {
            int i = number(3);
            int tenths = height();
            ask("height", mill.height(i, tenths), model.height(i, tenths));
        } else if (which == 11) {
            int tenths = edge(0, 100);
            ask("kerf", mill.kerf(tenths), model.kerf(tenths));
        } else if (which == 12) {
            int pieces = dice.roll(2) == 0 ? dice.roll(40) : edge(0, 1000);
            ask("need", mill.need(size, pieces), model.need(size, pieces));
        } else {
            int step = number(3);
            int shortage = dice.roll(2) == 0 ? dice.roll(40) : edge(0, 100000);
            int addition = cents(100000);
            ask("ladder", mill.ladder(step, shortage, addition), model.ladder(step, shortage, addition));
        }
    }

    private void sawOrAsk(int which) {
        if (which == 14) {
            int size = edge(0, 5);
            ask("needNow", mill.needNow(size), model.needNow(size));
        } else if (which == 15) {
            saw();
        } else if (which == 16) {
            ask("boards", mill.boards(), model.boards());
        } else if (which == 17) {
            int i = edge(0, (int) model.boards());
            int what = edge(0, 3);
            ask("board(" + i + ", " + what + ")", board(i, what), model.board(i, what));
        } else if (which == 18) {
            ask("cant", mill.cant(), model.cant());
        } else {
            int size = number(5);
            int count = dice.roll(2) == 0 ? dice.between(1, 20) : edge(1, 200);
            int top = edge(50, 900);
            ask("fits", mill.fits(size, count, top), model.fits(size, count, top));
        }
    }

    private void saw() {
        int i = model.logs() > 0 && dice.roll(8) > 0 ? dice.roll((int) model.logs()) : edge(0, 3);
        long got = Model.MISSING;
        try {
            got = mill.saw(i);
            sawn += got > 0 ? 1 : 0;
        } catch (NoSuchElementException e) {
            got = Model.MISSING;
        }
        ask("saw(" + i + ")", got, model.saw(i));
        int facts = 4 * (int) model.boards();
        if (dice.roll(3) == 0 && calls + facts <= CALLS) {
            for (int fact = 0; fact < facts; fact++) {
                ask("board(" + fact / 4 + ", " + fact % 4 + ")", board(fact / 4, fact % 4),
                    model.board(fact / 4, fact % 4));
            }
        }
    }

    private long log(int i, int what) {
        try {
            return mill.log(i, what);
        } catch (NoSuchElementException e) {
            return Model.MISSING;
        }
    }

    private long board(int i, int what) {
        try {
            return mill.board(i, what);
        } catch (NoSuchElementException e) {
            return Model.MISSING;
        }
    }

    private void ask(String call, boolean got, long want) {
        ask(call, got ? 1 : 0, want);
    }

    private void ask(String call, long got, long want) {
        calls++;
        CHECKS.due("run " + seed + ", call " + calls + ", " + call, got, want);
    }
}
