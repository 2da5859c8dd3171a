/** Promise 12: apart. */
public final class Promise12ApartTest {
    public static void main(String[] args) {
        ordinary();
        theLessOfBoth();
        oneAndTheSame();
        noSuchOnes();
        Check.end();
    }

    private static void ordinary() {
        BeamClocks x = Check.told("beam b 0 0;clock x b 0 1 1 phase 990;clock y b 1 1 1 phase 20;clock z b 2 1 1 phase 490;");
        Check.same("over the end", x.apart(0, 1), 30);
        Check.same("500", x.apart(0, 2), 500);
        Check.same("less one another", x.apart(2, 1), 470);
        Check.same("one and the same", x.apart(1, 1), -1);
        Check.same("no such", x.apart(0, 3), -1);
        Check.same("no such", x.apart(-1, 0), -1);
    }

    private static void theLessOfBoth() {
        Check.of("==== 2: APART: two PHASES less one another without sign, or 1000 less that, the less of both");
        int[][] due = {{0, 0, 0}, {0, 1, 1}, {0, 499, 499}, {0, 500, 500}, {0, 501, 499}, {0, 999, 1}, {999, 999, 0},
            {250, 750, 500}, {250, 751, 499}, {250, 749, 499}, {998, 1, 3}};
        for (int[] row : due) {
            BeamClocks x = Check.told("beam b 0 0;clock x b 0 1 1 phase " + row[0] + ";clock y b 1 1 1 phase " + row[1] + ";");
            Check.same(row[0] + " and " + row[1], x.apart(0, 1), row[2]);
            Check.same(row[1] + " and " + row[0], x.apart(1, 0), row[2]);
        }
    }

    private static void oneAndTheSame() {
        Check.of("promise 12: NONE: one and the same");
        BeamClocks x = Twins.made(Twins::rich);
        for (int clock = 0; clock < 3; clock++) {
            Check.same("clock " + clock, x.apart(clock, clock), -1);
        }
        Twins.unchanged("apart(1, 1)", y -> y.apart(1, 1), -1);
    }

    private static void noSuchOnes() {
        Check.of("promise 12: NONE: no such ones");
        BeamClocks x = Twins.made(Twins::rich);
        Check.yes("the last", x.apart(0, 2) >= 0);
        Check.same("0 and 3", x.apart(0, 3), -1);
        Check.same("3 and 0", x.apart(3, 0), -1);
        Check.same("0 and -1", x.apart(0, -1), -1);
        Check.same("-1 and 0", x.apart(-1, 0), -1);
        for (int far : Twins.FAR) {
            Check.same("0 and " + far, x.apart(0, far), -1);
            Check.same(far + " and 0", x.apart(far, 0), -1);
        }
        Twins.unchanged("apart(0, 3)", y -> y.apart(0, 3), -1);
    }
}
