import java.util.NoSuchElementException;

/** Whatever the numbers are, a call answers, or throws what the document says; a refused call changes nothing. */
public final class AnyCallTest {
    private static final Checks CHECKS = new Checks("any call");
    private static final int[] ODD = {Integer.MIN_VALUE, Integer.MIN_VALUE + 1, -1000000, -1, 0, 1, 2, 3, 5, 6, 18, 19,
        20, 40, 49, 50, 60, 61, 80, 81, 100, 101, 200, 299, 300, 900, 901, 1000, 4000, 5000, 100000, 1000000,
        1000001, Integer.MAX_VALUE - 1, Integer.MAX_VALUE};

    public static void main(String[] args) {
        for (int seed = 1; seed <= 300; seed++) {
            Dice dice = new Dice(seed * 131L);
            StemMill mill = new StemMill(dice.roll(3) == 0 ? odd(dice) : dice.between(1, 80));
            for (int call = 0; call < 250; call++) {
                one(seed, mill, dice);
            }
        }
        CHECKS.end();
    }

    private static void one(int seed, StemMill mill, Dice dice) {
        int which = dice.roll(20);
        int[] numbers = new int[4];
        for (int i = 0; i < 4; i++) {
            numbers[i] = dice.roll(4) == 0 ? odd(dice) : usual(dice, which, i);
        }
        boolean mayThrow = which == 7 || which == 15 || which == 17;
        String thrown = "nothing";
        long before = state(mill);
        long answer = 1;
        try {
            answer = call(mill, which, numbers);
        } catch (NoSuchElementException e) {
            thrown = mayThrow ? "nothing" : e.toString();
            answer = 0;
        } catch (RuntimeException e) {
            thrown = e.toString();
        }
        CHECKS.taken("seed " + seed + " call " + which + " threw " + thrown, thrown.equals("nothing"));
        boolean refused = which == 5 ? answer == StemMill.NONE : which != 4 && which != 15 && answer == 0;
        if (refused) {
            CHECKS.due("seed " + seed + " call " + which + ", refused: state", state(mill), before);
        }
    }

    private static int odd(Dice dice) {
        return ODD[dice.roll(ODD.length)];
    }

    private static int usual(Dice dice, int which, int i) {
        if (i == 0) {
            return dice.roll(which == 0 || which == 1 ? 80 : 6);
        }
        switch (which) {
            case 0:
                return dice.between(50, 900);
            case 2:
                return i == 1 ? dice.between(1, 12) : dice.roll(300);
            case 8:
                return dice.between(50, 700);
            case 10:
                return dice.between(3, 12) * 100;
            default:
                return dice.between(0, 60);
        }
    }

    private static long call(StemMill mill, int which, int[] n) {
        switch (which) {
            case 0: return mill.diameter(n[0], n[1]) ? 1 : 0;
            case 1: return mill.defect(n[0], n[1], n[2] % 4) ? 1 : 0;
            case 2: return mill.logKind(n[0], n[1], n[2]) ? 1 : 0;
            case 3: return mill.priceOf(n[0], n[1] % 20, n[2] % 4, n[3]) ? 1 : 0;
            case 4: return mill.buck();
            case 5: return mill.byHand((long) n[1] << 8 | n[2]);
            case 6: return mill.logs() + 1;
            case 7: return mill.log(n[0], n[1] % 7) + 1;
            case 8: return mill.size(n[0], n[1], n[2]) ? 1 : 0;
            case 9: return mill.boardPrice(n[0], n[1] % 4, n[2]) ? 1 : 0;
            case 10: return mill.height(n[0], n[1]) ? 1 : 0;
            case 11: return mill.kerf(n[1]) ? 1 : 0;
            case 12: return mill.need(n[0], n[1]) ? 1 : 0;
            case 13: return mill.ladder(n[0], n[1], n[2]) ? 1 : 0;
            case 14: return mill.needNow(n[0]) + 1;
            case 15: return mill.saw(n[0] / 2);
            case 16: return mill.boards() + 1;
            case 17: return mill.board(n[0], n[1] % 5) + 1;
            case 18: return mill.cant() + 2;
            default: return mill.fits(n[0], n[1], n[2]) ? 1 : 0;
        }
    }

    /**
     * What can be asked without changing anything, folded into one number. This asks more often than the
     * document's 512 calls; the program has no such end.
     */
    private static long state(StemMill mill) {
        long state = mill.cant();
        for (int i = 0; i < mill.logs(); i++) {
            for (int what = 0; what < 6; what++) {
                state = 31 * state + mill.log(i, what);
            }
        }
        for (int i = 0; i < mill.boards(); i++) {
            for (int what = 0; what < 4; what++) {
                state = 31 * state + mill.board(i, what);
            }
        }
        for (int size = 0; size < 6; size++) {
            state = 31 * state + mill.needNow(size);
            state = 2 * state + (mill.fits(size, 3, 300) ? 1 : 0);
        }
        return state;
    }
}
