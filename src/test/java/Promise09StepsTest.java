/** Promise 9: steps, what it takes and refuses. */
public final class Promise09StepsTest {
    /** Without pulls: x strikes at 99, 199, ..; y at 49, 99, 149, 199, .. */
    private static final String FREE = "beam b 0 0;clock x b 0 1 10;clock y b 1 2 20;";

    public static void main(String[] args) {
        ordinary();
        noSuchNumber();
        upTo4000();
        beyond4000();
        startedInTheirStep();
        allPullsFirst();
        Check.end();
    }

    private static void ordinary() {
        BeamClocks x = Check.told(FREE);
        Check.same("steps(0)", x.steps(0), 0);
        Check.same("steps(-1)", x.steps(-1), -1);
        Check.same("steps(1001)", x.steps(1001), -1);
        for (int i = 1; i <= 3; i++) {
            Check.same("steps(1000)", x.steps(1000), 1000 * i);
        }
        Check.same("steps(999)", x.steps(999), 3999);
        Check.same("beyond 4000", x.steps(2), -1);
        Check.same("none went by", x.count(4), 3999);
        Check.same("steps(1)", x.steps(1), 4000);
        Check.same("steps(1) beyond", x.steps(1), -1);
        Check.same("steps(0) still", x.steps(0), 4000);
        Check.same("40 strokes of x", Check.look(x, 0, 6), 40);
        Check.same("80 strokes of y", Check.look(x, 1, 6), 80);
        Check.same("all counts", x.count(9), 120);
        // all pulls first: y is pulled by where x was
        BeamClocks y = Check.told("beam b 10 0;clock x b 0 1 10;clock y b 1 1 10 phase 200;");
        y.steps(1);
        Check.same("x by 10 and 2", Check.look(y, 0, 4), 12);
        Check.same("y by 10 less 2", Check.look(y, 1, 4), 208);
        // the pull is cut by itself: 10 and -1500 by 1000 are 9
        BeamClocks z = Check.told("beam b 15 0;clock x b 0 1 10 phase 100;clock y b 1 1 10;");
        z.steps(1);
        Check.same("cut towards 0", Check.look(z, 0, 4), 109);
    }

    private static void noSuchNumber() {
        Check.of("promise 9: NONE, and none does: no such number (0 .. 1000)");
        Twins.unchanged("steps(-1)", x -> x.steps(-1), -1);
        Twins.unchanged("steps(1001)", x -> x.steps(1001), -1);
        for (int n : Twins.FAR) {
            Twins.unchanged("steps(" + n + ")", x -> x.steps(n), -1);
        }
        Twins.unchanged("steps(0)", x -> x.steps(0), 50);
        BeamClocks x = Check.told(FREE);
        Check.same("steps(1000)", x.steps(1000), 1000);
        Check.same("all of them went by", x.count(9), 10 + 20);
    }

    private static void late(BeamClocks x, int next) {
        Check.tell(x, FREE);
        for (int left = next; left > 0; left -= 1000) {
            x.steps(left < 1000 ? left : 1000);
        }
        x.keep();
        x.hang(0, 0, 7);
    }

    private static void upTo4000() {
        Check.of("==== 2: a STEP t of 0 .. 3999");
        BeamClocks x = Twins.made(y -> late(y, 3000));
        Check.same("steps(1000)", x.steps(1000), 4000);
        Check.same("the last step was 3999", x.stroke(0, 39), 3999);
        Check.same("its phase", x.was(0, 3999), 0);
        BeamClocks named = Check.told("beam b 0 0;law go (step = 0 or step = 3999) * 50 + (step > 3999) * 9;clock x b 0 1 1;");
        for (int i = 0; i < 4; i++) {
            named.steps(1000);
        }
        Check.same("the name step from 0 to 3999", Check.look(named, 0, 4), 100);
    }

    private static void beyond4000() {
        Check.of("promise 9: NONE, and none does: beyond 4000");
        Twins.unchanged("3001 and 1000", y -> late(y, 3001), x -> x.steps(1000), -1);
        Twins.unchanged("3001 and 1000000", y -> late(y, 3001), x -> x.steps(1000000), -1);
        Twins.unchanged("3999 and 2", y -> late(y, 3999), x -> x.steps(2), -1);
        Twins.unchanged("4000 and 1", y -> late(y, 4000), x -> x.steps(1), -1);
        Twins.unchanged("4000 and 0", y -> late(y, 4000), x -> x.steps(0), 4000);
        Twins.unchanged("4000 and MAX", y -> late(y, 4000), x -> x.steps(Integer.MAX_VALUE), -1);
        Twins.unchanged("4000 and -1", y -> late(y, 4000), x -> x.steps(-1), -1);
        BeamClocks x = Twins.made(y -> late(y, 3001));
        Check.same("999 are taken", x.steps(999), 4000);
        Check.same("back to 3001", x.back(), 3001);
        Check.same("and 998", x.steps(998), 3999);
        Check.same("not 2", x.steps(2), -1);
        Check.same("but 1", x.steps(1), 4000);
    }

    private static void startedInTheirStep() {
        Check.of("==== 2: those with start t are started in STEP t, ahead of all PULLS");
        BeamClocks x = Check.told("beam b 10 0;clock x b 0 1 10 start 3;clock y b 1 1 10 phase 200 start 3;clock z b 2 1 10;");
        x.stop(2);
        x.steps(3);
        Check.same("not yet", Check.look(x, 0, 4), 0);
        x.steps(1);
        Check.same("by 10 and by 2, pulled in that very step", Check.look(x, 0, 4), 12);
        Check.same("by 10 less 2", Check.look(x, 1, 4), 208);
        BeamClocks late = Check.told("beam b 0 0;clock x b 0 1 10 start 999;clock y b 1 1 10 start 998;");
        late.steps(999);
        Check.same("998 is gone by", Check.look(late, 1, 4), 10);
        Check.same("999 is next", Check.look(late, 0, 7), 0);
        late.steps(1);
        Check.same("999 is gone by", Check.look(late, 0, 4), 10);
    }

    private static void allPullsFirst() {
        Check.of("==== 2: all PULLS first, by PHASES as they are");
        BeamClocks x = Check.told("beam b 10 0;law lose (weight = 2) * 500;clock p b 0 2 10 phase 100;clock q b 1 1 10;"
                + "clock r b 2 1 10;");
        x.steps(1);
        Check.same("p is stopped in this step", Check.look(x, 0, 7), 2);
        Check.same("and stays", Check.look(x, 0, 4), 100);
        Check.same("but has pulled q: by 10 and 2", Check.look(x, 1, 4), 12);
        Check.same("and r", Check.look(x, 2, 4), 12);
        x.steps(1);
        Check.same("no more from then on", Check.look(x, 1, 4), 22);
    }
}
