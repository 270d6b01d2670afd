/** Promises 28 to 30: seed, keep, goBack. */
public final class ImagesTest {
    public static void main(String[] args) {
        seeding();
        keeping();
        whatImagesDoNotKeep();
        refusals();
        Check.end();
    }

    private static void seeding() {
        WeWereIn x = new WeWereIn();
        Check.due("seed at first", x.seed(5), 0);
        Check.due("seed", x.seed(Integer.MAX_VALUE), 5);
        Check.due("seed -1", x.seed(-1), Check.OUTSIDE);
        Check.due("seed least", x.seed(Integer.MIN_VALUE), Check.OUTSIDE);
        Check.due("seed greatest", x.seed(0), Integer.MAX_VALUE);
        x = Check.street("v1 0 1;s0 0 0;");
        x.drift(1);
        Check.due("two draws from 0", x.seed(0), (int) ((12345L * 1103515245L + 12345L) % 2147483648L));
    }

    private static void keeping() {
        WeWereIn x = Check.street(Check.FOUR);
        x.seed(11);
        Check.due("keep 0", x.keep(0), 1);
        String first = Check.state(x);
        x.round(4321, 3);
        x.seed(22);
        Check.due("keep: can be undone", x.told(14), 1);
        Check.due("keep 1", x.keep(1), 1);
        Check.due("keep: cannot be undone", x.told(14), 0);
        Check.due("keep: undo", x.undo(1), Check.NOT);
        String second = Check.state(x);
        x.drift(7);
        Check.due("go back to 0", x.goBack(0), 1);
        Check.due("go back to 0: state", Check.state(x), first);
        Check.due("go back to 0: undo", x.undo(1), Check.NOT);
        Check.due("go back to 0: undone", x.told(14), 0);
        Check.due("go back to 0: seed", x.seed(33), 11);
        x.drift(3);
        Check.due("go back to 1", x.goBack(1), 1);
        Check.due("go back to 1: state", Check.state(x), second);
        Check.due("go back to 1: seed", x.seed(44), 22);
        x.thank(1);
        Check.due("undo to the image alone", x.undo(2), Check.NOT);
        Check.due("undo the deed since", x.undo(1), 1);
        Check.due("go back to 1 again", x.goBack(1), 1);
        Check.due("go back to 1 again: seed", x.seed(0), 22);
        x.keep(0);
        x.round(1, 0);
        x.goBack(0);
        Check.due("keep over another", Check.state(x), second);
    }

    private static void whatImagesDoNotKeep() {
        WeWereIn x = Check.street(Check.FOUR);
        x.see(0, true);
        x.keep(0);
        x.see(1, true);
        x.write(0, 1);
        x.feed(' ');
        x.goBack(0);
        Check.due("seen stays", x.told(12), 2);
        Check.due("the book stays", x.told(13), 1);
        Check.due("the text stays", x.told(4), 1);
    }

    private static void refusals() {
        WeWereIn x = Check.street(Check.FOUR);
        x.round(1, 0);
        Check.due("keep 2", x.keep(2), Check.UNKNOWN);
        Check.due("go back to 2", x.goBack(2), Check.UNKNOWN);
        for (int far : Check.FAR) {
            Check.due("keep " + far, x.keep(far), Check.UNKNOWN);
            Check.due("go back to " + far, x.goBack(far), Check.UNKNOWN);
        }
        Check.due("not kept", x.goBack(0), Check.NOT);
        Check.due("refused: can be undone", x.told(14), 1);
        x.keep(0);
        Check.due("the other is not kept", x.goBack(1), Check.NOT);
        WeWereIn y = new WeWereIn();
        y.seed(8);
        Check.due("keep without a street", y.keep(0), 1);
        y.seed(9);
        Check.due("go back without a street", y.goBack(0), 1);
        Check.due("go back without a street: seed", y.seed(0), 8);
    }
}
