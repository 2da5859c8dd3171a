/** Promise 21: run. */
public final class Promise21RunTest {
    public static void main(String[] args) {
        ordinary();
        from0To2000Steps();
        whetherItRuns();
        noSuchOnes();
        fromStep0AsTold();
        onlyAsked();
        Check.end();
    }

    private static void ordinary() {
        BeamClocks x = Check.told("beam b 0 0;law lose 1;clock x b 0 1 10;clock y b 1 2 20 start 5 swing 30;");
        x.steps(50);
        x.stop(0);
        Check.same("count", x.run(0, 100, 0), 1);
        Check.same("count of 99", x.run(0, 99, 0), 0);
        Check.same("phase", x.run(0, 99, 1), 990);
        Check.same("swing", x.run(0, 99, 2), 401);
        Check.same("it runs", x.run(0, 99, 3), 1);
        Check.same("none by 0", x.run(0, 0, 3), 0);
        Check.same("not started", x.run(1, 5, 3), 0);
        Check.same("started", x.run(1, 6, 3), 1);
        Check.same("its phase", x.run(1, 6, 1), 20);
        Check.same("it runs by 34", x.run(1, 34, 3), 1);
        Check.same("stopped by 35", x.run(1, 35, 3), 0);
        Check.same("its phase then", x.run(1, 2000, 1), 580);
        Check.same("its swing then", x.run(1, 2000, 2), 0);
        Check.same("n 2001", x.run(0, 2001, 0), -1);
        Check.same("n -1", x.run(0, -1, 0), -1);
        Check.same("what 4", x.run(0, 1, 4), -1);
        Check.same("what -1", x.run(0, 1, -1), -1);
        Check.same("no such", x.run(2, 1, 0), -1);
        Check.same("no such", x.run(-1, 1, 0), -1);
        Check.same("nothing changed", x.count(4), 50);
        BeamClocks y = Check.told("beam b 0 0;law go place;clock x b 3 1 10;");
        y.hang(0, 0, 20);
        Check.same("hung as now, from 0 on", y.run(0, 3, 1), 60);
    }

    private static void from0To2000Steps() {
        Check.of("==== 3: a RUN: n STEPS (0 .. 2000) from 0 on");
        BeamClocks x = Check.told("beam b 0 0;law lose step / 1999;clock x b 0 1 10 phase 7;");
        int[][] due = {{0, 0, 7, 500, 0}, {1, 0, 17, 500, 1}, {99, 0, 997, 500, 1}, {100, 1, 7, 500, 1}, {1999, 19, 997, 500, 1},
            {2000, 20, 7, 499, 1}};
        for (int[] row : due) {
            for (int what = 0; what <= 3; what++) {
                Check.same("run(0, " + row[0] + ", " + what + ")", x.run(0, row[0], what), row[what + 1]);
            }
        }
        Check.same("2001", x.run(0, 2001, 0), -1);
        Check.same("-1", x.run(0, -1, 0), -1);
    }

    private static void whetherItRuns() {
        Check.of("promise 21: 3 whether it RUNS (1, 0)");
        BeamClocks x = Check.told("beam b 0 0;law lose 100;clock x b 0 1 10 start 3;");
        for (int n = 0; n <= 12; n++) {
            Check.same("run(0, " + n + ", 3)", x.run(0, n, 3), n >= 4 && n < 8 ? 1 : 0);
        }
        Check.same("swing of one not started", x.run(0, 3, 2), 500);
        Check.same("swing of one stopped", x.run(0, 8, 2), 0);
        BeamClocks late = Check.told("beam b 0 0;clock x b 0 1 10 start 999;");
        Check.same("999 steps", late.run(0, 999, 3), 0);
        Check.same("1000 steps", late.run(0, 1000, 3), 1);
    }

    private static void noSuchOnes() {
        Check.of("promise 21: NONE: no such ones");
        Twins.unchanged("clock 3", x -> x.run(3, 5, 0), -1);
        Twins.unchanged("clock -1", x -> x.run(-1, 5, 0), -1);
        Twins.unchanged("n 2001", x -> x.run(0, 2001, 0), -1);
        Twins.unchanged("n -1", x -> x.run(0, -1, 0), -1);
        Twins.unchanged("what 4", x -> x.run(0, 5, 4), -1);
        Twins.unchanged("what -1", x -> x.run(0, 5, -1), -1);
        BeamClocks x = Twins.made(Twins::rich);
        Check.yes("the last clock, n and what", x.run(2, 2000, 3) >= 0);
        for (int far : Twins.FAR) {
            Check.same("clock " + far, x.run(far, 5, 0), -1);
            Check.same("n " + far, x.run(0, far, 0), -1);
            Check.same("what " + far, x.run(0, 5, far), -1);
        }
    }

    private static void fromStep0AsTold() {
        Check.of("==== 3: a RUN: from 0 on, all hung as they are now, nothing else done by hand");
        BeamClocks x = Check.told("beam b 0 0;law go place;clock x b 10 1 1;clock y b 20 1 1;");
        x.steps(33);
        x.stop(1);
        Check.same("x from 0 on", x.run(0, 5, 1), 50);
        Check.same("y is not stopped", x.run(1, 5, 1), 100);
        x.hang(0, 0, 30);
        Check.same("hung as now", x.run(0, 5, 1), 150);
        x.undo();
        Check.same("undone", x.run(0, 5, 1), 50);
        x.keep();
        x.hang(0, 0, 30);
        x.back();
        Check.same("as in the image", x.run(0, 5, 1), 50);
    }

    private static void onlyAsked() {
        Check.of("promise 21: a RUN changes nothing");
        Twins.unchanged("run", x -> x.run(0, 2000, 3), Twins.made(Twins::rich).run(0, 2000, 3));
    }
}
