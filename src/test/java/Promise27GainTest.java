/** Promise 27: gain. */
public final class Promise27GainTest {
    private static final String FREE = "beam b 0 0;clock x b 0 1 10;clock y b 1 2 20;";

    public static void main(String[] args) {
        ordinary();
        oneAndTheSame();
        oneIsntDue();
        noSuchOnes();
        fromEndToEnd();
        Check.end();
    }

    private static void ordinary() {
        BeamClocks x = Check.told(FREE);
        Check.same("gain(0, 1, 0)", x.gain(0, 1, 0), 50);
        Check.same("gain(1, 0, 1)", x.gain(1, 0, 1), -100);
        Check.same("one and the same", x.gain(1, 1, 3), 0);
        Check.same("one isn't due", x.gain(0, 1, 25), Integer.MIN_VALUE);
        Check.same("one isn't due", x.gain(1, 0, 25), Integer.MIN_VALUE);
        Check.same("k -1", x.gain(0, 1, -1), Integer.MIN_VALUE);
        Check.same("no such", x.gain(0, 2, 0), Integer.MIN_VALUE);
        Check.same("no such", x.gain(-1, 0, 0), Integer.MIN_VALUE);
    }

    private static void oneAndTheSame() {
        Check.of("promise 27: 0 of one and the same");
        BeamClocks x = Check.told(FREE);
        Check.same("x", x.gain(0, 0, 0), 0);
        Check.same("y, its last", x.gain(1, 1, 39), 0);
    }

    private static void oneIsntDue() {
        Check.of("promise 27: Integer.MIN_VALUE: one isn't DUE");
        BeamClocks x = Check.told(FREE);
        Check.same("both are", x.gain(0, 1, 19), 1999 - 999);
        Check.same("x isn't", x.gain(0, 1, 20), Integer.MIN_VALUE);
        Check.same("x isn't, the other way", x.gain(1, 0, 20), Integer.MIN_VALUE);
        Check.same("none is", x.gain(0, 1, 40), Integer.MIN_VALUE);
        Check.same("MAX", x.gain(0, 1, Integer.MAX_VALUE), Integer.MIN_VALUE);
        Check.same("one and the same that isn't", x.gain(0, 0, 20), Integer.MIN_VALUE);
        Twins.unchanged("gain(0, 1, 9999)", y -> y.gain(0, 1, 9999), Integer.MIN_VALUE);
    }

    private static void noSuchOnes() {
        Check.of("promise 27: Integer.MIN_VALUE: no such ones");
        int none = Integer.MIN_VALUE;
        Twins.unchanged("0 and 3", x -> x.gain(0, 3, 0), none);
        Twins.unchanged("3 and 0", x -> x.gain(3, 0, 0), none);
        Twins.unchanged("0 and -1", x -> x.gain(0, -1, 0), none);
        Twins.unchanged("-1 and 0", x -> x.gain(-1, 0, 0), none);
        Twins.unchanged("k -1", x -> x.gain(0, 1, -1), none);
        Twins.unchanged("3 and 3", x -> x.gain(3, 3, 0), none);
        BeamClocks x = Check.told(FREE);
        Check.same("k -1 of one and the same", x.gain(0, 0, -1), none);
        Check.same("k MIN", x.gain(0, 1, none), none);
        for (int far : Twins.FAR) {
            Check.same("0 and " + far, x.gain(0, far, 0), none);
            Check.same(far + " and 1", x.gain(far, 1, 0), none);
            Check.same(far + " and itself", x.gain(far, far, 0), none);
        }
    }

    private static void fromEndToEnd() {
        Check.of("==== 3: GAIN: DUE by one less that by another one");
        BeamClocks x = Check.told("beam b 0 0;law go (step = 0) * (place = 0) + (step = 1999) * (place = 1);"
                + "clock x b 0 1 1 phase 999;clock y b 1 1 1 phase 999;");
        Check.same("0 less 1999", x.gain(0, 1, 0), -1999);
        Check.same("1999 less 0", x.gain(1, 0, 0), 1999);
    }
}
