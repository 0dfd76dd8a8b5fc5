import java.io.IOException;
import java.nio.file.Files;
import java.nio.file.Path;
import java.util.HashMap;
import java.util.List;
import java.util.Map;

/** What README.md shows under "Use": its lines stand here again, and answer what is told beside them. */
public final class ReadmeTest {
    private static final Checks CHECKS = new Checks("README.md");
    private static final Map<String, String> TOLD = new HashMap<>();

    public static void main(String[] args) throws IOException {
        shownLinesStandHere();
        shownAnswers();
        CHECKS.end();
    }

    private static void shownLinesStandHere() throws IOException {
        List<String> here = Files.readAllLines(Path.of("src/test/java/ReadmeTest.java"));
        here.replaceAll(String::strip);
        boolean shown = false;
        for (String line : Files.readAllLines(Path.of("README.md"))) {
            if (line.startsWith("```")) {
                shown = line.equals("```java");
            } else if (shown && !line.isBlank()) {
                String[] parts = line.split("//");
                CHECKS.taken("a test of the line " + line, here.contains(parts[0].strip()));
                keepAnswer(parts);
            }
        }
        CHECKS.due("answers shown", TOLD.size(), 14);
    }

    /** The first word of the comment beside "int value = .." is what README.md tells of value. */
    private static void keepAnswer(String[] parts) {
        String[] words = parts[0].strip().split(" ");
        if (parts.length == 2 && (words[0].equals("int") || words[0].equals("boolean"))) {
            TOLD.put(words[1], parts[1].strip().split("[ :,]")[0]);
        }
    }

    private static void told(String name, Object got) {
        String answer = got.equals(StemMill.NONE) ? "NONE" : got.toString();
        CHECKS.taken(name + ", which is " + answer + ", told as " + TOLD.get(name), answer.equals(TOLD.get(name)));
    }

    private static void shownAnswers() {
        StemMill mill = new StemMill(12);
        for (int point = 0; point <= 12; point++) {
            mill.diameter(point, 400 - 10 * point);
        }
        mill.defect(0, 1, 2);
        mill.logKind(0, 4, 200);
        mill.priceOf(0, 6, 1, 150);
        mill.priceOf(0, 7, 2, 120);
        int value = mill.buck();
        told("value", value);
        int logs = mill.logs();
        told("logs", logs);
        int first = mill.log(0, 0);
        told("first", first);
        int top = mill.log(1, 2);
        told("top", top);
        CHECKS.due("first of log 1", mill.log(1, 0), 6);
        int byHand = mill.byHand(0x0101);
        told("byHand", byHand);
        CHECKS.due("first by hand", mill.log(0, 0), 0);
        CHECKS.due("second by hand", mill.log(1, 0), 5);
        int tooMany = mill.byHand(0x010101);
        told("tooMany", tooMany);
        mill.buck();
        shownSawing(mill);
    }

    private static void shownSawing(StemMill mill) {
        mill.size(0, 250, 1500);
        mill.boardPrice(0, 2, 60);
        mill.size(1, 200, 1000);
        mill.boardPrice(1, 2, 30);
        mill.height(0, 1500);
        mill.kerf(40);
        int sawn = mill.saw(0);
        told("sawn", sawn);
        int cant = mill.cant();
        told("cant", cant);
        int boards = mill.boards();
        told("boards", boards);
        CHECKS.due("the last board in the cant", mill.board(10, 1), 0);
        CHECKS.due("the first board above", mill.board(11, 1), 1);
        CHECKS.due("the first board below", mill.board(14, 1), 2);
        int left = mill.board(1, 2);
        told("left", left);

        mill.need(1, 5);
        mill.ladder(0, 3, 40);
        int dearer = mill.saw(0);
        told("dearer", dearer);
        CHECKS.due("a board of size 1", mill.board(11, 3), 70);
        CHECKS.due("boards of size 0", mill.board(10, 0), 0);
        CHECKS.due("boards of size 1", mill.board(11, 0), 1);
        CHECKS.due("the last board of size 1", mill.board(16, 0), 1);
        int still = mill.needNow(1);
        told("still", still);
        boolean stand = mill.fits(0, 9, 300);
        told("stand", stand);
        boolean tooWide = mill.fits(0, 10, 300);
        told("tooWide", tooWide);
    }
}
