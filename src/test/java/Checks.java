import java.util.NoSuchElementException;
import java.util.function.IntPredicate;
import java.util.function.IntSupplier;

/** Counts the answers of one test; a test ends with exit code 1 if one was not as due. */
final class Checks {
    private final String title;
    private int asked;
    private int wrong;

    Checks(String title) {
        this.title = title;
    }

    void due(String call, long got, long want) {
        asked++;
        if (got != want) {
            wrong++;
            System.out.println(title + ": " + call + " answered " + got + ", due is " + want);
        }
    }

    void taken(String call, boolean got) {
        due(call, got ? 1 : 0, 1);
    }

    void refused(String call, boolean got) {
        due(call, got ? 1 : 0, 0);
    }

    /** Exactly the numbers low .. high are taken: asked at both edges, and as far outside as numbers go. */
    void range(String number, int low, int high, IntPredicate call) {
        int[] asked = {low, high, low + (high - low) / 2, low - 1, high + 1, low - 2, high + 2, -high - 1, high + 256,
            low - 256, high + 65536, low - 65536, 1 << 30, Integer.MIN_VALUE, Integer.MIN_VALUE + high,
            Integer.MAX_VALUE};
        for (int each : asked) {
            due(number + " " + each, call.test(each) ? 1 : 0, each >= low && each <= high ? 1 : 0);
        }
    }

    void missing(String call, IntSupplier run) {
        boolean thrown = false;
        try {
            run.getAsInt();
        } catch (NoSuchElementException e) {
            thrown = true;
        }
        due(call + " throws NoSuchElementException", thrown ? 1 : 0, 1);
    }

    void end() {
        System.out.println(title + ": " + asked + " answers, " + wrong + " not as due");
        if (wrong != 0) {
            System.exit(1);
        }
    }
}
