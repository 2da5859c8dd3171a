/** Promise 34: keep. */
public final class Promise34KeepTest {
    private static final String FREE = "beam b 0 0;clock x b 0 1 10;clock y b 1 2 20;";

    public static void main(String[] args) {
        whichStepIsNext();
        inPlaceOfOneAhead();
        keepsWithoutChange();
        Check.end();
    }

    private static void whichStepIsNext() {
        Check.of("promise 34: which STEP is next");
        Check.same("of a new object", new BeamClocks().keep(), 0);
        BeamClocks x = Check.told(FREE);
        Check.same("0", x.keep(), 0);
        x.steps(1);
        Check.same("1", x.keep(), 1);
        for (int i = 0; i < 3; i++) {
            x.steps(1000);
        }
        x.steps(998);
        Check.same("3999", x.keep(), 3999);
        x.steps(1);
        Check.same("4000", x.keep(), 4000);
        Check.same("back to 4000", x.back(), 4000);
        Check.same("no more steps", x.steps(1), -1);
    }

    private static void inPlaceOfOneAhead() {
        Check.of("promise 34: in place of one ahead");
        BeamClocks x = Check.told(FREE);
        x.steps(10);
        x.keep();
        x.hang(0, 0, 9);
        x.steps(10);
        x.keep();
        x.steps(10);
        Check.same("back to the latter", x.back(), 20);
        Check.same("hung as in that", Check.look(x, 0, 1), 9);
        Check.same("once more", x.back(), 20);
        x.keep();
        x.keep();
        Check.same("and again", x.back(), 20);
    }

    private static void keepsWithoutChange() {
        Check.of("promise 34: an IMAGE is kept; all that is seen stays");
        Twins.Calls fresh = x -> {
            Check.tell(x, FREE);
            x.steps(7);
            x.keep();
        };
        Twins.unchanged("keep again", fresh, x -> x.keep(), 7);
        BeamClocks x = Check.told(FREE);
        x.steps(3);
        x.hang(0, 0, 7);
        x.stop(1);
        x.keep();
        Check.same("what can be undone stays", x.count(7), 2);
        Check.same("undo", x.undo(), 1);
        Check.same("it runs", Check.look(x, 1, 7), 1);
        Check.same("undo", x.undo(), 0);
        Check.same("hung as told", Check.look(x, 0, 1), 0);
        x.back();
        Check.same("stopped in the image", Check.look(x, 1, 7), 2);
        Check.same("hung elsewhere in the image", Check.look(x, 0, 1), 7);
    }
}
