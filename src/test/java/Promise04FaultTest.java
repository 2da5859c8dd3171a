/** Promise 4: fault. */
public final class Promise04FaultTest {
    public static void main(String[] args) {
        ordinary();
        aheadOfAnyText();
        anotherWhat();
        ofTheLatestThatWasNotMinus2();
        nothingElseChangesIt();
        Check.end();
    }

    private static void ordinary() {
        BeamClocks x = new BeamClocks();
        Check.same("fault(0) ahead of any text", x.fault(0), 0);
        Check.same("fault(1) ahead of any text", x.fault(1), -1);
        Check.tell(x, "wall 1");
        Check.same("fault(0)", x.fault(0), 1);
        Check.same("fault(1)", x.fault(1), 6);
        Check.same("fault(2)", x.fault(2), -1);
        Check.same("fault(-1)", x.fault(-1), -1);
        Check.same("text(1) of an empty tape", x.text(1), -2);
        Check.same("that was -2: the fault stays", x.fault(0), 1);
        x.keep();
        Check.tell(x, "wall 100;");
        x.back();
        Check.same("an image does not keep the fault", x.fault(0), 2);
        Check.tell(x, "wall 1;");
        Check.same("no fault", x.fault(0), 0);
        Check.same("no place", x.fault(1), -1);
    }

    private static void aheadOfAnyText() {
        Check.of("promise 4: no text() yet");
        BeamClocks x = new BeamClocks();
        Check.same("fault(0)", x.fault(0), 0);
        Check.same("fault(1)", x.fault(1), -1);
        x.text(1);
        x.text(-1);
        Check.same("fault(0) behind -2", x.fault(0), 0);
        Check.same("fault(1) behind -2", x.fault(1), -1);
    }

    private static void anotherWhat() {
        Check.of("promise 4: NONE for another what");
        for (BeamClocks x : new BeamClocks[] {new BeamClocks(), Check.told("wall 1;"), Twins.made(Twins::rich)}) {
            Check.same("fault(2)", x.fault(2), -1);
            Check.same("fault(-1)", x.fault(-1), -1);
            for (int what : Twins.FAR) {
                Check.same("fault(" + what + ")", x.fault(what), -1);
            }
        }
        Twins.unchanged("fault(2)", x -> x.fault(2), -1);
        Twins.unchanged("fault(-1)", x -> x.fault(-1), -1);
    }

    private static void ofTheLatestThatWasNotMinus2() {
        Check.of("promise 4: of the latest text() that was not -2");
        BeamClocks x = new BeamClocks();
        Check.tell(x, "wall 100;");
        Check.same("too much", x.fault(0), 2);
        Check.same("at 5", x.fault(1), 5);
        Check.feed(x, "wall 1;");
        x.text(-1);
        x.text(21);
        Check.same("-2 leaves it", x.fault(0), 2);
        Check.same("and its place", x.fault(1), 5);
        x.text(7);
        Check.same("a text without one", x.fault(0), 0);
        Check.same("has no place", x.fault(1), -1);
        x.text(1);
        Check.same("-2 leaves that as well", x.fault(0), 0);
        Check.tell(x, "#");
        Check.same("a fault at place 0", x.fault(1), 0);
        Check.same("is one", x.fault(0), 1);
        x.text(0);
        Check.same("text(0) has none", x.fault(0), 0);
        Check.same("nor a place", x.fault(1), -1);
        Check.feed(x, " ".repeat(680));
        x.feed(0x20202020, 0x20202020, 0x20202020, 0x20202020, 0x20202023);
        x.text(700);
        Check.same("the last place of a full tape", x.fault(1), 699);
        Check.feed(x, " ".repeat(680) + "wall");
        x.text(700);
        Check.same("the length of a full tape", x.fault(1), 700);
    }

    private static void nothingElseChangesIt() {
        Check.of("promise 4: only text() tells a FAULT anew");
        BeamClocks x = Twins.made(Twins::rich);
        x.steps(1);
        x.keep();
        x.hang(0, 0, 1);
        x.undo();
        x.back();
        x.feed(0, 0, 0, 0, 0);
        Check.same("fault(0)", x.fault(0), 2);
        Check.same("fault(1)", x.fault(1), 5);
    }
}
