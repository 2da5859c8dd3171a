/** Promise 26: due. */
public final class Promise26DueTest {
    private static final String FREE = "beam b 0 0;clock x b 0 1 10;clock y b 1 2 20;";

    public static void main(String[] args) {
        ordinary();
        inTheFirstAndTheLastStep();
        notByThen();
        noSuchOnes();
        noneGoesFirst();
        inARunOfNow();
        Check.end();
    }

    private static void ordinary() {
        BeamClocks x = Check.told(FREE);
        x.steps(7);
        Check.same("due(0, 0)", x.due(0, 0), 99);
        Check.same("due(1, 2)", x.due(1, 2), 149);
        Check.same("due(0, 19)", x.due(0, 19), 1999);
        Check.same("due(0, 20)", x.due(0, 20), -2);
        Check.same("due(0, MAX)", x.due(0, Integer.MAX_VALUE), -2);
        Check.same("due(0, -1)", x.due(0, -1), -1);
        Check.same("due(2, 0)", x.due(2, 0), -1);
        Check.same("due(-1, 99)", x.due(-1, 99), -1);
        BeamClocks y = Check.told("beam b 0 0;clock x b 0 1 10 phase 990;clock y b 1 1 10;");
        Check.same("in step 0", y.due(0, 0), 0);
        Check.same("in step 1900", y.due(0, 19), 1900);
        Check.same("step 2000 is no more of it", y.due(0, 20), -2);
        Check.same("gain of step 0", y.gain(0, 1, 0), -99);
        Check.same("gain by step 0", y.gain(1, 0, 0), 99);
    }

    private static void inTheFirstAndTheLastStep() {
        Check.of("promise 26: DUE in a RUN of 2000");
        BeamClocks x = Check.told("beam b 0 0;clock x b 0 1 10 phase 990;clock y b 1 1 10;clock z b 2 1 10 phase 999 start 999;");
        Check.same("step 0", x.due(0, 0), 0);
        Check.same("step 1900", x.due(0, 19), 1900);
        Check.same("step 2000 is beyond", x.due(0, 20), -2);
        Check.same("step 1999", x.due(1, 19), 1999);
        Check.same("none behind it", x.due(1, 20), -2);
        Check.same("step 999", x.due(2, 0), 999);
    }

    private static void notByThen() {
        Check.of("promise 26: -2: not by then");
        BeamClocks x = Check.told("beam b 0 0;law lose 1;clock x b 0 1 1;clock y b 1 1 10;clock z b 2 1 3 swing 1;");
        Check.same("stopped ahead of it", x.due(0, 0), -2);
        Check.same("the last ahead of its stop", x.due(1, 3), 399);
        Check.same("stopped then", x.due(1, 4), -2);
        Check.same("never went", x.due(2, 0), -2);
        Check.same("MAX", x.due(1, Integer.MAX_VALUE), -2);
        Twins.unchanged("due(0, 9999)", y -> y.due(0, 9999), -2);
    }

    private static void noSuchOnes() {
        Check.of("promise 26: NONE: no such ones (k 0 up)");
        Twins.unchanged("clock 3", x -> x.due(3, 0), -1);
        Twins.unchanged("clock -1", x -> x.due(-1, 0), -1);
        Twins.unchanged("k -1", x -> x.due(0, -1), -1);
        BeamClocks x = Check.told(FREE);
        Check.same("the last clock, k 0", x.due(1, 0), 49);
        Check.same("k MIN", x.due(0, Integer.MIN_VALUE), -1);
        for (int far : Twins.FAR) {
            Check.same("clock " + far, x.due(far, 0), -1);
        }
    }

    private static void noneGoesFirst() {
        Check.of("==== 4: of several answers that hold NONE goes first");
        BeamClocks x = Check.told("beam b 0 0;clock x b 0 1 10 start 999;law go 0;");
        Check.same("not by then", x.due(0, 0), -2);
        Check.same("no such clock", x.due(1, 0), -1);
        Check.same("k -1", x.due(0, -1), -1);
    }

    private static void inARunOfNow() {
        Check.of("==== 3: DUE: in a RUN, all hung as they are now");
        Twins.unchanged("due", x -> x.due(1, 3), Twins.made(Twins::rich).due(1, 3));
        BeamClocks x = Check.told("beam b 0 0;law go place;clock x b 10 1 1;");
        x.steps(500);
        x.stop(0);
        Check.same("by 10", x.due(0, 0), 99);
        x.hang(0, 0, 20);
        Check.same("by 20", x.due(0, 0), 49);
        x.undo();
        Check.same("by 10 again", x.due(0, 0), 99);
    }
}
