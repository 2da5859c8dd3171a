/** Promise 13: since. */
public final class Promise13SinceTest {
    /** Apart by 10, 20, 30, .. at the ends of steps 0, 1, 2, .. up to 500, then by less again. */
    private static final String FREE = "beam b 0 0;clock x b 0 1 10;clock y b 1 2 20;";

    public static void main(String[] args) {
        ordinary();
        noStepWentBy();
        theyArentNow();
        by0AndBy500();
        broken();
        noSuchOnes();
        noneGoesFirst();
        behindAnImage();
        Check.end();
    }

    private static void ordinary() {
        // apart 10, 20, 30, .. up to 500 at the end of step 49, then less again
        BeamClocks x = Check.told(FREE);
        Check.same("no step went by", x.since(0, 1, 500, false), -2);
        x.steps(10);
        Check.same("in step by 100", x.since(0, 1, 100, false), 0);
        Check.same("in step by 99", x.since(0, 1, 99, false), -2);
        Check.same("against by 400", x.since(0, 1, 400, true), 9);
        Check.same("against by 401", x.since(0, 1, 401, true), 9);
        Check.same("against by 410", x.since(0, 1, 410, true), 8);
        Check.same("against by 399", x.since(0, 1, 399, true), -2);
        Check.same("against by 500", x.since(0, 1, 500, true), 0);
        x.steps(85);
        // at the end of step t behind 49: 500 - 10 (t - 49); of step 94: 50
        Check.same("in step by 70 since", x.since(0, 1, 70, false), 92);
        Check.same("in step by 79 since", x.since(1, 0, 79, false), 92);
        Check.same("in step by 500 since", x.since(0, 1, 500, false), 0);
        Check.same("in step by 49", x.since(0, 1, 49, false), -2);
        Check.same("n 501", x.since(0, 1, 501, false), -1);
        Check.same("n -1", x.since(0, 1, -1, true), -1);
        Check.same("one and the same", x.since(1, 1, 5, false), -1);
        Check.same("no such", x.since(0, 2, 5, false), -1);
        Check.same("no such", x.since(-1, 1, 5, false), -1);
        BeamClocks y = Check.told("beam b 0 0;clock x b 0 1 1 start 900;clock y b 1 1 1 start 900;");
        y.steps(2);
        Check.same("those that don't run have phases too", y.since(0, 1, 0, false), 0);
    }

    private static void noStepWentBy() {
        Check.of("promise 13: -2: no STEP went by");
        BeamClocks x = Check.told("beam b 0 0;clock x b 0 1 10;clock y b 1 2 20;");
        for (int n : new int[] {0, 1, 499, 500}) {
            Check.same("in step by " + n, x.since(0, 1, n, false), -2);
            Check.same("against by " + n, x.since(0, 1, n, true), -2);
        }
        x.steps(0);
        Check.same("none still", x.since(0, 1, 500, false), -2);
        x.steps(1);
        Check.same("one", x.since(0, 1, 500, false), 0);
        Check.tell(x, FREE);
        Check.same("another text: none", x.since(0, 1, 500, false), -2);
    }

    private static void theyArentNow() {
        Check.of("promise 13: -2: they aren't now; IN STEP: APART is n at most; AGAINST: 500 less n at least");
        BeamClocks x = Check.told(FREE);
        x.steps(20);
        Check.same("200 apart, by 199", x.since(0, 1, 199, false), -2);
        Check.same("200 apart, by 200", x.since(0, 1, 200, false), 0);
        Check.same("200 apart, against by 299", x.since(0, 1, 299, true), -2);
        Check.same("200 apart, against by 300", x.since(0, 1, 300, true), 19);
        Check.same("against by 309", x.since(0, 1, 309, true), 19);
        Check.same("against by 310", x.since(0, 1, 310, true), 18);
        Twins.unchanged("they aren't", y -> y.since(0, 1, 0, false), -2);
    }

    private static void by0AndBy500() {
        Check.of("==== 2: by n (0 .. 500)");
        BeamClocks x = Check.told(FREE);
        x.steps(50);
        Check.same("500 apart, in step by 499", x.since(0, 1, 499, false), -2);
        Check.same("500 apart, in step by 500", x.since(0, 1, 500, false), 0);
        Check.same("500 apart, against by 0", x.since(0, 1, 0, true), 49);
        Check.same("500 apart, against by 9", x.since(0, 1, 9, true), 49);
        Check.same("500 apart, against by 10", x.since(0, 1, 10, true), 48);
        Check.same("against by 500", x.since(0, 1, 500, true), 0);
        x.steps(50);
        Check.same("together, by 0", x.since(0, 1, 0, false), 99);
        Check.same("together, against by 499", x.since(0, 1, 499, true), -2);
        Check.same("together, against by 500", x.since(0, 1, 500, true), 0);
    }

    private static void broken() {
        Check.of("==== 2: SINCE: the first from whose end on up to now all ends are so");
        BeamClocks x = Check.told(FREE);
        x.steps(105);
        // 0 at the end of 99, then 10, 20, 30, 40, 50; 100 and less from the end of 89 on
        Check.same("by 50", x.since(0, 1, 50, false), 94);
        Check.same("by 49", x.since(0, 1, 49, false), -2);
        Check.same("by 100", x.since(0, 1, 100, false), 89);
        Check.same("by 99", x.since(0, 1, 99, false), 90);
        Check.same("by 490", x.since(0, 1, 490, false), 50);
        Check.same("by 500", x.since(0, 1, 500, false), 0);
    }

    private static void noSuchOnes() {
        Check.of("promise 13: NONE: no such ones, one and the same");
        BeamClocks x = Check.told(FREE);
        x.steps(5);
        for (boolean against : new boolean[] {false, true}) {
            Check.same("n -1", x.since(0, 1, -1, against), -1);
            Check.same("n 501", x.since(0, 1, 501, against), -1);
            Check.same("0 and 2", x.since(0, 2, 500, against), -1);
            Check.same("2 and 0", x.since(2, 0, 500, against), -1);
            Check.same("-1 and 0", x.since(-1, 0, 500, against), -1);
            Check.same("0 and -1", x.since(0, -1, 500, against), -1);
            Check.same("0 and 0", x.since(0, 0, 500, against), -1);
            Check.same("1 and 1", x.since(1, 1, 500, against), -1);
            for (int far : Twins.FAR) {
                Check.same("n " + far, x.since(0, 1, far, against), -1);
                Check.same(far + " and 1", x.since(far, 1, 500, against), -1);
                Check.same("0 and " + far, x.since(0, far, 500, against), -1);
            }
        }
        Twins.unchanged("n 501", y -> y.since(0, 1, 501, false), -1);
        Twins.unchanged("0 and 0", y -> y.since(0, 0, 5, false), -1);
    }

    private static void noneGoesFirst() {
        Check.of("==== 4: of several answers that hold NONE goes first");
        BeamClocks x = Check.told(FREE);
        Check.same("no step, one and the same", x.since(1, 1, 5, false), -1);
        Check.same("no step, n 501", x.since(0, 1, 501, true), -1);
        Check.same("no step, n -1", x.since(0, 1, -1, false), -1);
        Check.same("no step, no such clock", x.since(0, 2, 5, false), -1);
    }

    private static void behindAnImage() {
        Check.of("promise 13: of the STEPS that went by");
        BeamClocks x = Check.told(FREE);
        x.keep();
        x.steps(20);
        x.back();
        Check.same("none went by", x.since(0, 1, 500, false), -2);
        x.steps(2);
        Check.same("two went by", x.since(0, 1, 20, false), 0);
        Check.same("by less", x.since(0, 1, 19, false), -2);
    }
}
