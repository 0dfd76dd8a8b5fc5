/** Mills that tests begin with. */
final class Mills {
    private Mills() {
    }

    /** A mill whose bucked cutting is one log of this top and grade. */
    static StemMill withLog(int top, int grade) {
        StemMill mill = new StemMill(1);
        mill.diameter(0, top);
        mill.diameter(1, top);
        if (grade > 1) {
            mill.defect(0, 1, grade);
        }
        mill.logKind(0, 1, 0);
        mill.byHand(1);
        return mill;
    }
}
