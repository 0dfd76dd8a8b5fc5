import java.util.NoSuchElementException;
import java.util.function.IntSupplier;

/** Counts the answers of one test; a test ends with exit code 1 if one was not as due. */
final class Checks {
    private final String title;
    private int asked;
    private int wrong;

    Checks(String title) {
        this.title = title;
    }

    void due(String call, long got, long want) {
        asked++;
        if (got != want) {
            wrong++;
            System.out.println(title + ": " + call + " answered " + got + ", due is " + want);
        }
    }

    void taken(String call, boolean got) {
        due(call, got ? 1 : 0, 1);
    }

    void refused(String call, boolean got) {
        due(call, got ? 1 : 0, 0);
    }

    void missing(String call, IntSupplier run) {
        boolean thrown = false;
        try {
            run.getAsInt();
        } catch (NoSuchElementException e) {
            thrown = true;
        }
        due(call + " throws NoSuchElementException", thrown ? 1 : 0, 1);
    }

    void end() {
        System.out.println(title + ": " + asked + " answers, " + wrong + " not as due");
        if (wrong != 0) {
            System.exit(1);
        }
    }
}
