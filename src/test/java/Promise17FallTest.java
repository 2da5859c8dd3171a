/** Promise 17: fall. */
public final class Promise17FallTest {
    private static final String FREE = "beam b 0 0;clock x b 0 1 10;clock y b 1 2 20;";

    public static void main(String[] args) {
        ordinary();
        noSoMany();
        belowZero();
        theFirstAndTheLastStep();
        behindAnImage();
        Check.end();
    }

    private static void ordinary() {
        BeamClocks x = Check.told(FREE);
        Check.same("none", x.falls(), 0);
        x.steps(99);
        Check.same("none by 98", x.falls(), 0);
        Check.same("fall(0)", x.fall(0), -2);
        x.steps(101);
        Check.same("two", x.falls(), 2);
        Check.same("fall(0)", x.fall(0), 99);
        Check.same("fall(1)", x.fall(1), 199);
        Check.same("fall(2)", x.fall(2), -2);
        Check.same("fall(-1)", x.fall(-1), -1);
        Check.same("fall(MIN)", x.fall(Integer.MIN_VALUE), -1);
        BeamClocks y = Check.told("beam b 0 0;clock x b 0 1 1 phase 999;clock y b 1 1 1 phase 999;");
        y.steps(1);
        Check.same("a fall in step 0", y.falls(), 1);
        Check.same("its step", y.fall(0), 0);
        Check.same("a stroke in step 0", y.stroke(1, 0), 0);
    }

    private static void noSoMany() {
        Check.of("promise 17: -2: there were no so many");
        Check.same("of none", new BeamClocks().fall(0), -2);
        BeamClocks x = Check.told(FREE);
        Check.same("no step yet", x.fall(0), -2);
        x.steps(1000);
        Check.same("the tenth", x.fall(9), 999);
        Check.same("no eleventh", x.fall(10), -2);
        Check.same("MAX", x.fall(Integer.MAX_VALUE), -2);
        Twins.unchanged("fall(999)", y -> y.fall(999), -2);
    }

    private static void belowZero() {
        Check.of("promise 17: NONE: k below 0");
        BeamClocks x = Check.told(FREE);
        Check.same("-1, none yet: NONE goes first", x.fall(-1), -1);
        x.steps(1000);
        Check.same("-1", x.fall(-1), -1);
        Check.same("MIN", x.fall(Integer.MIN_VALUE), -1);
        Twins.unchanged("fall(-1)", y -> y.fall(-1), -1);
    }

    private static void theFirstAndTheLastStep() {
        Check.of("promise 17: the STEP of the k-th, of 0 .. 3999");
        BeamClocks x = Check.told("beam b 0 0;clock p b 0 1 10 phase 990;clock q b 1 1 10 phase 990;"
                + "clock r b 2 1 10;clock s b 3 1 10;");
        for (int i = 0; i < 4; i++) {
            x.steps(1000);
        }
        Check.same("falls", x.falls(), 80);
        Check.same("the first", x.fall(0), 0);
        Check.same("the second", x.fall(1), 99);
        Check.same("the third", x.fall(2), 100);
        Check.same("the last", x.fall(79), 3999);
        Check.same("one more", x.fall(80), -2);
    }

    private static void behindAnImage() {
        Check.of("promise 17: of those that there were");
        BeamClocks x = Check.told(FREE);
        x.steps(99);
        x.keep();
        x.steps(1);
        Check.same("one", x.fall(0), 99);
        x.back();
        Check.same("none", x.fall(0), -2);
        Check.same("k below 0", x.fall(-1), -1);
    }
}
