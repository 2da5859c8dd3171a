/** Promise 11: stroke. */
public final class Promise11StrokeTest {
    private static final String FREE = "beam b 0 0;clock x b 0 1 10;clock y b 1 2 20;";

    public static void main(String[] args) {
        ordinary();
        noSoMany();
        noSuchOnes();
        noneGoesFirst();
        inTheFirstAndTheLastStep();
        behindAnImage();
        Check.end();
    }

    private static void ordinary() {
        BeamClocks x = Check.told(FREE);
        Check.same("none yet", x.stroke(0, 0), -2);
        x.steps(200);
        Check.same("stroke(0, 0)", x.stroke(0, 0), 99);
        Check.same("stroke(0, 1)", x.stroke(0, 1), 199);
        Check.same("stroke(0, 2)", x.stroke(0, 2), -2);
        Check.same("stroke(1, 2)", x.stroke(1, 2), 149);
        Check.same("stroke(1, MAX)", x.stroke(1, Integer.MAX_VALUE), -2);
        Check.same("stroke(0, -1)", x.stroke(0, -1), -1);
        Check.same("stroke(2, 9)", x.stroke(2, 9), -1);
        Check.same("stroke(-1, 9)", x.stroke(-1, 9), -1);
    }

    private static void noSoMany() {
        Check.of("promise 11: -2: there were no so many");
        BeamClocks x = Check.told(FREE);
        Check.same("no step yet", x.stroke(0, 0), -2);
        x.steps(99);
        Check.same("not yet", x.stroke(0, 0), -2);
        x.steps(1);
        Check.same("the first", x.stroke(0, 0), 99);
        Check.same("no second", x.stroke(0, 1), -2);
        x.steps(900);
        Check.same("the tenth", x.stroke(0, 9), 999);
        Check.same("no eleventh", x.stroke(0, 10), -2);
        Check.same("MAX", x.stroke(0, Integer.MAX_VALUE), -2);
        Check.tell(x, FREE);
        Check.same("another text: none yet", x.stroke(0, 0), -2);
        Twins.unchanged("stroke(0, 99)", y -> y.stroke(0, 99), -2);
    }

    private static void noSuchOnes() {
        Check.of("promise 11: NONE: no such ones");
        BeamClocks x = Check.told(FREE);
        x.steps(500);
        Check.same("clock 2", x.stroke(2, 0), -1);
        Check.same("clock -1", x.stroke(-1, 0), -1);
        Check.same("k -1", x.stroke(0, -1), -1);
        Check.same("k MIN", x.stroke(0, Integer.MIN_VALUE), -1);
        for (int far : Twins.FAR) {
            Check.same("clock " + far, x.stroke(far, 0), -1);
        }
        // a clock's bit that would meet another's: 32 more
        Check.same("clock 32", x.stroke(32, 0), -1);
        Check.same("clock 33", x.stroke(33, 0), -1);
        Twins.unchanged("stroke(3, 0)", y -> y.stroke(3, 0), -1);
        Twins.unchanged("stroke(0, -1)", y -> y.stroke(0, -1), -1);
    }

    private static void noneGoesFirst() {
        Check.of("==== 4: of several answers that hold NONE goes first");
        BeamClocks x = Check.told(FREE);
        Check.same("no such clock and no so many", x.stroke(2, 5), -1);
        Check.same("no such k and no strokes", x.stroke(0, -1), -1);
        Check.same("no such clock nor k", x.stroke(-1, -1), -1);
    }

    private static void inTheFirstAndTheLastStep() {
        Check.of("promise 11: the STEP, of 0 .. 3999");
        BeamClocks x = Check.told("beam b 0 0;clock x b 0 1 10 phase 990;clock y b 1 1 10;");
        for (int i = 0; i < 4; i++) {
            x.steps(1000);
        }
        Check.same("step 0", x.stroke(0, 0), 0);
        Check.same("step 3900", x.stroke(0, 39), 3900);
        Check.same("no more", x.stroke(0, 40), -2);
        Check.same("step 99", x.stroke(1, 0), 99);
        Check.same("step 3999", x.stroke(1, 39), 3999);
        Check.same("no more", x.stroke(1, 40), -2);
    }

    private static void behindAnImage() {
        Check.of("promise 11: of those that went by");
        BeamClocks x = Check.told(FREE);
        x.steps(99);
        x.keep();
        x.steps(1);
        Check.same("struck", x.stroke(0, 0), 99);
        x.back();
        Check.same("not yet", x.stroke(0, 0), -2);
        x.stop(0);
        x.steps(1);
        Check.same("nor will it", x.stroke(0, 0), -2);
        Check.same("but the other one", x.stroke(1, 1), 99);
    }
}
