/** Promise 22: own. */
public final class Promise22OwnTest {
    private static final String DRAWN = "beam b 99 0;beam c 0 0;clock x b 0 1 50;clock y b 1 9 50 phase 200;";

    public static void main(String[] args) {
        ordinary();
        from0To2000Steps();
        alone();
        noSuchOnes();
        Check.end();
    }

    private static void ordinary() {
        BeamClocks x = Check.told(DRAWN);
        Check.same("drawn", x.run(0, 17, 0), 1);
        Check.same("own 17", x.own(0, 17), 0);
        Check.same("own 19", x.own(0, 19), 0);
        Check.same("own 20", x.own(0, 20), 1);
        Check.same("own of y by 15", x.own(1, 15), 0);
        Check.same("own of y by 16", x.own(1, 16), 1);
        Check.same("own 2000", x.own(0, 2000), 100);
        Check.same("own 2001", x.own(0, 2001), -1);
        Check.same("own -1", x.own(0, -1), -1);
        Check.same("no such", x.own(2, 1), -1);
        Check.same("no such", x.own(-1, 1), -1);
        BeamClocks y = Check.told("beam b 0 0;law go place;clock x b 1 1 10 start 2;");
        y.hang(0, 0, 20);
        Check.same("from its start on, as it hangs now", y.own(0, 52), 1);
        Check.same("one step less", y.own(0, 51), 0);
    }

    private static void from0To2000Steps() {
        Check.of("==== 3: OWN time: its COUNT in a RUN (0 .. 2000) of it alone");
        BeamClocks x = Check.told("beam b 0 0;clock x b 0 1 10;clock y b 1 1 10 start 999;");
        int[][] due = {{0, 0}, {1, 0}, {99, 0}, {100, 1}, {1999, 19}, {2000, 20}, {2001, -1}, {-1, -1}};
        for (int[] row : due) {
            Check.same("own(0, " + row[0] + ")", x.own(0, row[0]), row[1]);
        }
        Check.same("from 999 on", x.own(1, 1099), 1);
        Check.same("one less", x.own(1, 1098), 0);
    }

    private static void alone() {
        Check.of("==== 3: a RUN of it alone");
        BeamClocks x = Check.told("beam b 99 0;wall 99;beam c 9 1;clock x b 0 1 50;clock y b 1 9 50 phase 200;"
                + "clock z c 1 9 50 phase 200;");
        Check.same("with the others", x.run(0, 17, 0), 1);
        Check.same("alone by 19", x.own(0, 19), 0);
        Check.same("alone by 20", x.own(0, 20), 1);
        x.steps(1);
        x.stop(0);
        Check.same("stopped by hand, from 0 on", x.own(0, 20), 1);
        BeamClocks y = Check.told("beam b 99 0;law go pull + 10;clock x b 0 1 50;clock y b 1 9 50 phase 200;");
        Check.same("no pull in go's E", y.own(0, 100), 1);
        Check.same("nor sooner", y.own(0, 99), 0);
    }

    private static void noSuchOnes() {
        Check.of("promise 22: NONE: no such ones");
        Twins.unchanged("clock 3", x -> x.own(3, 5), -1);
        Twins.unchanged("clock -1", x -> x.own(-1, 5), -1);
        Twins.unchanged("n 2001", x -> x.own(0, 2001), -1);
        Twins.unchanged("n -1", x -> x.own(0, -1), -1);
        Twins.unchanged("own", x -> x.own(2, 2000), Twins.made(Twins::rich).own(2, 2000));
        BeamClocks x = Twins.made(Twins::rich);
        Check.yes("the last", x.own(2, 2000) >= 0);
        for (int far : Twins.FAR) {
            Check.same("clock " + far, x.own(far, 5), -1);
            Check.same("n " + far, x.own(0, far), -1);
        }
    }
}
