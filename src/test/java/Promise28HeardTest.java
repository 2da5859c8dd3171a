/** Promise 28: heard. */
public final class Promise28HeardTest {
    private static final String FREE = "beam b 0 0;clock x b 0 1 10;clock y b 1 2 20;";

    public static void main(String[] args) {
        ordinary();
        steps0To1999();
        aClockOrAny();
        fortyAtMost();
        noSuchOnes();
        struckOrNot();
        numberedFrom0On();
        Check.end();
    }

    private static void ordinary() {
        BeamClocks x = Check.told(FREE);
        Check.same("step -1", x.heard(-1, 0, true), -1);
        Check.same("step 2000", x.heard(2000, 0, true), -1);
        Check.same("clock 2", x.heard(0, 2, true), -1);
        Check.same("clock -2", x.heard(0, -2, true), -1);
        Check.same("the first", x.heard(1999, 1, true), 0);
        Check.same("the second", x.heard(0, -1, false), 1);
        for (int i = 2; i < 40; i++) {
            Check.same("number " + i, x.heard(i, 0, false), i);
        }
        Check.same("there are 40", x.heard(0, 0, false), -1);
        Check.same("nor a strike", x.strike(0), -1);
        Check.same("40 heard", x.count(5), 40);
        Check.same("all are so", x.fits(), 1);
        BeamClocks y = Check.told(FREE);
        for (int i = 0; i < 39; i++) {
            y.heard(5, 0, i == 0);
        }
        Check.same("the first isn't so", y.fits(), 0);
        Check.same("the last strikes it", y.strike(0), 39);
        Check.same("and counts", y.fits(), 1);
    }

    private static void steps0To1999() {
        Check.of("promise 28: in a STEP (0 .. 1999)");
        BeamClocks x = Check.told(FREE);
        Check.same("step 0", x.heard(0, 0, false), 0);
        Check.same("step 1999", x.heard(1999, 0, true), 1);
        Check.same("both are so", x.fits(), 1);
        Check.same("step 2000", x.heard(2000, 0, true), -1);
        Check.same("step -1", x.heard(-1, 0, true), -1);
        for (int far : Twins.FAR) {
            Check.same("step " + far, x.heard(far, 0, true), -1);
        }
        Check.same("no more were heard", x.count(5), 2);
        Check.same("in step 0", x.heard(0, 0, true), 2);
        Check.same("none struck then", x.fits(), 0);
    }

    private static void aClockOrAny() {
        Check.of("promise 28: a CLOCK (NONE: any)");
        BeamClocks x = Check.told(FREE);
        Check.same("clock -1", x.heard(49, -1, true), 0);
        Check.same("clock 0", x.heard(49, 0, false), 1);
        Check.same("clock 1", x.heard(49, 1, true), 2);
        Check.same("all are so", x.fits(), 1);
        Check.same("clock 2", x.heard(49, 2, true), -1);
        Check.same("clock -2", x.heard(49, -2, true), -1);
        for (int far : Twins.FAR) {
            Check.same("clock " + far, x.heard(49, far, true), -1);
        }
        Check.same("three were heard", x.count(5), 3);
        BeamClocks none = new BeamClocks();
        Check.same("any of none", none.heard(0, -1, false), 0);
        Check.same("the first of none", none.heard(0, 0, false), -1);
    }

    private static void full(BeamClocks x) {
        Check.tell(x, FREE);
        for (int i = 0; i < 40; i++) {
            x.heard(i, 0, false);
        }
    }

    private static void fortyAtMost() {
        Check.of("promise 28: NONE: there are 40");
        BeamClocks x = Check.told(FREE);
        for (int i = 0; i < 39; i++) {
            x.heard(i, 0, false);
        }
        Check.same("the 40th", x.heard(5, 0, true), 39);
        Check.same("it counts", x.fits(), 0);
        Check.same("a 41st", x.heard(5, 0, true), -1);
        Twins.unchanged("a 41st", Promise28HeardTest::full, y -> y.heard(7, 1, true), -1);
        Twins.unchanged("a 41st of any", Promise28HeardTest::full, y -> y.heard(7, -1, true), -1);
        Check.same("40 fit", Twins.made(Promise28HeardTest::full).fits(), 1);
        Check.tell(x, FREE);
        Check.same("behind a text", x.heard(5, 0, true), 0);
        // the 40th may be the latest of all
        BeamClocks last = Check.told(FREE);
        for (int i = 0; i < 39; i++) {
            last.heard(i, 0, false);
        }
        last.heard(1999, 0, true);
        Check.same("the 40th is so", last.fits(), 1);
        last.known(39);
        Check.same("so are those ahead of it", last.fits(), 1);
        BeamClocks wrong = Check.told(FREE);
        for (int i = 0; i < 39; i++) {
            wrong.heard(i, 0, false);
        }
        wrong.heard(1999, 0, false);
        Check.same("the 40th isn't so", wrong.fits(), 0);
    }

    private static void noSuchOnes() {
        Check.of("promise 28: NONE: no such ones");
        Twins.unchanged("step 2000", x -> x.heard(2000, 0, true), -1);
        Twins.unchanged("step -1", x -> x.heard(-1, 0, true), -1);
        Twins.unchanged("clock 3", x -> x.heard(0, 3, true), -1);
        Twins.unchanged("clock -2", x -> x.heard(0, -2, true), -1);
        Twins.unchanged("neither", x -> x.heard(-1, -2, false), -1);
    }

    private static void one(int step, int clock, boolean struck, int fits) {
        BeamClocks x = Check.told(FREE);
        x.heard(step, clock, struck);
        Check.same("heard(" + step + ", " + clock + ", " + struck + ")", x.fits(), fits);
    }

    private static void struckOrNot() {
        Check.of("promise 28: a CLOCK struck, or none did");
        for (int clock = -1; clock <= 1; clock++) {
            for (int step : new int[] {48, 49, 50, 98, 99, 100}) {
                boolean x = step == 99;
                boolean y = step == 49 || step == 99;
                boolean struck = clock == 0 ? x : clock == 1 ? y : x || y;
                one(step, clock, true, struck ? 1 : 0);
                one(step, clock, false, struck ? 0 : 1);
            }
        }
        // the last of six, so that "any" is all of them
        BeamClocks six = Check.told("beam b 0 0;clock u b 0 1 1;clock v b 1 1 1;clock w b 2 1 1;clock x b 3 1 1;"
                + "clock y b 4 1 1;clock z b 5 1 10;");
        six.heard(99, -1, true);
        six.heard(99, 5, true);
        Check.same("the sixth", six.fits(), 1);
        Check.same("clock 6", six.heard(99, 6, true), -1);
    }

    private static void numberedFrom0On() {
        Check.of("==== 3: HEARD, numbered from 0 on, STRIKES too");
        BeamClocks x = Check.told(FREE);
        Check.same("heard", x.heard(5, 0, false), 0);
        Check.same("strike", x.strike(0), 1);
        Check.same("heard", x.heard(5, 0, false), 2);
        Check.same("the same again", x.heard(5, 0, false), 3);
        Check.same("strike", x.strike(3), 4);
        Check.same("all", x.count(5), 5);
    }
}
