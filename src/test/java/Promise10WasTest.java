/** Promise 10: was. */
public final class Promise10WasTest {
    private static final String FREE = "beam b 0 0;clock x b 0 1 10;clock y b 1 2 20;";

    public static void main(String[] args) {
        ordinary();
        noneHasGoneBy();
        fromTheFirstToTheLatest();
        noSuchOnes();
        behindAnImage();
        thoseThatDontRunToo();
        Check.end();
    }

    private static void ordinary() {
        BeamClocks x = Check.told(FREE);
        Check.same("none has gone by", x.was(0, 0), -1);
        x.steps(60);
        Check.same("was(0, 0)", x.was(0, 0), 10);
        Check.same("was(0, 59)", x.was(0, 59), 600);
        Check.same("was(1, 49)", x.was(1, 49), 0);
        Check.same("was(0, 60)", x.was(0, 60), -1);
        Check.same("was(0, -1)", x.was(0, -1), -1);
        Check.same("was(2, 0)", x.was(2, 0), -1);
        Check.same("was(-1, 0)", x.was(-1, 0), -1);
        x.steps(1000);
        x.steps(1000);
        x.steps(1000);
        x.steps(940);
        Check.same("was(1, 3998)", x.was(1, 3998), 980);
        Check.same("was(1, 3999)", x.was(1, 3999), 0);
        Check.same("was(1, 4000)", x.was(1, 4000), -1);
    }

    private static void noneHasGoneBy() {
        Check.of("promise 10: NONE: it hasn't gone by");
        BeamClocks x = Check.told(FREE);
        Check.same("step 0 is next", x.was(0, 0), -1);
        x.steps(0);
        Check.same("step 0 is next still", x.was(0, 0), -1);
        x.steps(1);
        Check.same("step 0", x.was(0, 0), 10);
        Check.same("step 1 is next", x.was(0, 1), -1);
        Check.tell(x, FREE);
        Check.same("another text: step 0 is next", x.was(0, 0), -1);
        Twins.unchanged("was(0, 50)", y -> y.was(0, 50), -1);
    }

    private static void fromTheFirstToTheLatest() {
        Check.of("promise 10: PHASE at the end of a STEP, of the first up to 3999");
        BeamClocks x = Check.told(FREE);
        for (int i = 0; i < 4; i++) {
            x.steps(1000);
            int last = i * 1000 + 999;
            Check.same("step 0", x.was(1, 0), 20);
            Check.same("the latest but one", x.was(0, last - 1), 990);
            Check.same("the latest", x.was(0, last), 0);
            Check.same("the next", x.was(0, last + 1), -1);
        }
    }

    private static void noSuchOnes() {
        Check.of("promise 10: NONE: no such ones");
        BeamClocks x = Check.told(FREE);
        x.steps(1000);
        Check.same("clock 2", x.was(2, 5), -1);
        Check.same("clock -1", x.was(-1, 5), -1);
        Check.same("step -1", x.was(0, -1), -1);
        Check.same("step 4000", x.was(0, 4000), -1);
        for (int far : Twins.FAR) {
            Check.same("clock " + far, x.was(far, 5), -1);
            Check.same("step " + far, x.was(0, far), -1);
        }
        // 6 and 2 are the columns and clocks: a step and clock that would meet another's place
        Check.same("step 1 of clock -6", x.was(-6, 1), -1);
        Check.same("step 0 of clock 6", x.was(6, 0), -1);
        Twins.unchanged("was(3, 0)", y -> y.was(3, 0), -1);
    }

    private static void behindAnImage() {
        Check.of("promise 10: behind back() the STEPS of the IMAGE went by, no others");
        BeamClocks x = Check.told("beam b 0 0;law go place;clock x b 10 1 1;");
        x.steps(5);
        x.keep();
        x.steps(5);
        x.back();
        Check.same("step 4", x.was(0, 4), 50);
        Check.same("step 5 hasn't gone by", x.was(0, 5), -1);
        x.hang(0, 0, 20);
        x.steps(3);
        Check.same("step 5 anew", x.was(0, 5), 70);
        Check.same("step 7 anew", x.was(0, 7), 110);
        Check.same("step 8 hasn't gone by", x.was(0, 8), -1);
    }

    private static void thoseThatDontRunToo() {
        Check.of("promise 10: PHASE of those that don't RUN, too");
        BeamClocks x = Check.told("beam b 0 0;clock x b 0 1 10 phase 7 start 3;clock y b 1 1 10 phase 9;");
        x.steps(2);
        x.stop(1);
        x.steps(2);
        Check.same("not started", x.was(0, 2), 7);
        Check.same("started", x.was(0, 3), 17);
        Check.same("running", x.was(1, 1), 29);
        Check.same("stopped", x.was(1, 3), 29);
    }
}
