/** Promise 35: back. */
public final class Promise35BackTest {
    private static final String FREE = "beam b 0 0;clock x b 0 1 10;clock y b 1 2 20;";
    private static final String DRAWN = "beam b 99 0;beam c 0 0;clock x b 0 1 50;clock y b 1 9 50 phase 200;";

    public static void main(String[] args) {
        ordinary();
        thereIsNone();
        nothingToUndoThen();
        heardKnownTapeAndFaultStay();
        allElseIsAsInTheImage();
        asOftenAsAsked();
        Check.end();
    }

    private static void ordinary() {
        BeamClocks x = Check.told(FREE);
        Check.same("no image", x.back(), -1);
        x.steps(120);
        x.hang(0, 0, 5);
        Check.same("keep", x.keep(), 120);
        Check.same("keep leaves what can be undone", x.count(7), 1);
        x.undo();
        x.stop(1);
        x.steps(100);
        x.heard(3, 0, true);
        x.known(0);
        x.feed(0, 0, 0, 0, 0);
        Check.same("back", x.back(), 120);
        Check.same("the step", x.count(4), 120);
        Check.same("hung as in the image", Check.look(x, 0, 1), 5);
        Check.same("it runs", Check.look(x, 1, 7), 1);
        Check.same("its swing", Check.look(x, 1, 5), 500);
        Check.same("its phase", Check.look(x, 1, 4), 400);
        Check.same("its count", Check.look(x, 1, 6), 2);
        Check.same("all counts", x.count(9), 3);
        Check.same("nothing to undo", x.undo(), -1);
        Check.same("what went by", x.was(0, 119), 200);
        Check.same("no more went by", x.was(0, 120), -1);
        Check.same("strokes", x.stroke(0, 1), -2);
        Check.same("falls", x.falls(), 1);
        Check.same("what was heard stays", x.count(5), 1);
        Check.same("what is known stays", x.count(6), 0);
        Check.same("the tape stays", x.feed(0, 0, 0, 0, 0), 40);
        x.steps(80);
        Check.same("on from there", x.stroke(1, 3), 199);
        Check.same("back once more", x.back(), 120);
        x.steps(1);
        Check.same("in place of the one ahead", x.keep(), 121);
        x.steps(9);
        Check.same("back to that", x.back(), 121);
        x.text(40);
        Check.same("a faulty text leaves the image", x.back(), 121);
        Check.tell(x, FREE);
        Check.same("a text leaves no image", x.back(), -1);
        BeamClocks z = Check.told("beam b 0 0;law lose 3;clock x b 0 1 10;clock y b 1 2 20;");
        z.steps(99);
        z.keep();
        z.steps(1);
        Check.same("a fall", z.falls(), 1);
        z.back();
        Check.same("its swing as in the image", Check.look(z, 0, 5), 500 - 297);
        Check.same("no stroke of the step that is next", z.stroke(0, 0), -2);
        Check.same("nor a fall", z.falls(), 0);
        Check.same("nor its step", z.fall(0), -2);
        BeamClocks y = Check.told(DRAWN);
        y.keep();
        y.hang(0, 1, 3);
        Check.same("out of reach", y.run(0, 17, 0), 0);
        Check.same("least of that", y.least(1, 17, 0, 0), 0);
        y.back();
        Check.same("in reach again", y.run(0, 17, 0), 1);
        Check.same("least of this", y.least(1, 17, 0, 0), 1);
        y.steps(1);
        Check.same("drawn again", Check.look(y, 0, 4), 228);
    }

    private static void thereIsNone() {
        Check.of("promise 35: NONE: there is none");
        Check.same("of a new object", new BeamClocks().back(), -1);
        Twins.unchanged("none kept", x -> {
            Check.tell(x, FREE);
            x.steps(9);
            x.hang(0, 0, 7);
            x.heard(3, 0, true);
        }, x -> x.back(), -1);
        Twins.unchanged("kept ahead of a text", x -> {
            Check.tell(x, FREE);
            x.keep();
            Check.tell(x, FREE);
            x.steps(9);
            x.hang(0, 0, 7);
        }, x -> x.back(), -1);
        BeamClocks x = Check.told(FREE);
        x.keep();
        Check.tell(x, "#");
        Check.same("a faulty text leaves it", x.back(), 0);
        x.text(-1);
        Check.same("so does -2", x.back(), 0);
        x.text(0);
        Check.same("an empty text doesn't", x.back(), -1);
    }

    private static void nothingToUndoThen() {
        Check.of("promise 35: nothing to undo then");
        BeamClocks x = Check.told(FREE);
        x.hang(0, 0, 5);
        x.hang(0, 0, 6);
        x.keep();
        x.hang(0, 0, 7);
        Check.same("three", x.count(7), 3);
        x.back();
        Check.same("none", x.count(7), 0);
        Check.same("undo", x.undo(), -1);
        Check.same("as in the image", Check.look(x, 0, 1), 6);
        x.hang(0, 0, 8);
        Check.same("what comes then can be", x.undo(), 0);
        Check.same("undone", Check.look(x, 0, 1), 6);
    }

    private static void heardKnownTapeAndFaultStay() {
        Check.of("==== 4: an IMAGE keeps all but what was HEARD, by how many it is KNOWN, the TAPE and the FAULT");
        BeamClocks x = Check.told(FREE);
        x.heard(5, 0, true);
        x.known(1);
        x.feed(0, 0, 0, 0, 0);
        x.keep();
        x.heard(6, 0, true);
        x.heard(7, 0, false);
        x.known(3);
        x.feed(0, 0, 0, 0, 0);
        Check.same("a faulty text", x.text(40), -1);
        x.feed(0x77616c6c, 0x20353b20, 0x20202020, 0x20202020, 0x20202020);
        x.back();
        Check.same("heard", x.count(5), 3);
        Check.same("known", x.count(6), 3);
        Check.same("the fault", x.fault(0), 1);
        Check.same("its place", x.fault(1), 0);
        Check.same("the tape's size", x.feed(0x20202020, 0x20202020, 0x20202020, 0x20202020, 0x20202020), 40);
        Check.same("the tape", x.text(40), 1);
        BeamClocks all = Check.told(FREE);
        all.keep();
        all.heard(5, 0, true);
        all.back();
        Check.same("known by all stays by all", all.count(6), 1);
        all.heard(6, 0, true);
        Check.same("also those to come", all.count(6), 2);
    }

    private static void allElseIsAsInTheImage() {
        Check.of("promise 35: all that it keeps is as in the IMAGE");
        Twins.Calls kept = x -> {
            Check.tell(x, "beam a 90 7;beam b 60 9;wall 20;law lose 3;law go speed + count;clock x a 3 2 41 drive 2;"
                    + "clock y a 5 1 50 phase 200;clock z b 3 9 37 start 25;may m hang x b 9;");
            x.steps(10);
            x.hang(0, 1, 8);
            x.stop(1);
            x.steps(10);
            x.keep();
        };
        Twins.unchanged("steps, by hand, and back", kept, x -> {
            x.steps(400);
            x.hang(2, 0, 3);
            x.stop(0);
            x.least(7, 30, 0, 0);
            x.order(40, 2, 300, 0);
            x.steps(1000);
            return x.back();
        }, 20);
        Twins.unchanged("by hand only, and back", kept, x -> {
            x.hang(2, 0, 3);
            x.hang(0, 0, 4);
            x.stop(2);
            return x.back();
        }, 20);
        Twins.unchanged("nothing, and back", kept, x -> x.back(), 20);
    }

    private static void asOftenAsAsked() {
        Check.of("promise 35: the IMAGE stays kept");
        BeamClocks x = Check.told(FREE);
        x.steps(3000 - 2000);
        x.keep();
        for (int i = 0; i < 5; i++) {
            x.steps(1000);
            x.hang(0, 0, 9 + i);
            Check.same("back", x.back(), 1000);
            Check.same("count", Check.look(x, 0, 6), 10);
            Check.same("place", Check.look(x, 0, 1), 0);
        }
    }
}
