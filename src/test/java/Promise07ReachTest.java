/** Promise 7: reach. */
public final class Promise07ReachTest {
    public static void main(String[] args) {
        ordinary();
        zeroAtLeast();
        theWallOnTwoBeams();
        oneAndTheSame();
        noSuchOnes();
        thoseThatDontRunToo();
        Check.end();
    }

    private static void ordinary() {
        BeamClocks x = Check.told("beam a 50 7;beam b 9 1;wall 33;clock x a 3 1 1;clock y a 10 1 1;clock z b 3 1 1;");
        Check.same("50 less 7 times 7", x.reach(0, 1), 1);
        Check.same("either way", x.reach(1, 0), 1);
        Check.same("by the wall", x.reach(0, 2), 33);
        x.hang(1, 0, 11);
        Check.same("0 at least", x.reach(0, 1), 0);
        x.hang(1, 0, 2);
        Check.same("hung nearer", x.reach(0, 1), 43);
        x.hang(2, 0, 4);
        Check.same("on one beam now", x.reach(0, 2), 43);
        Check.same("one and the same", x.reach(1, 1), -1);
        Check.same("no such", x.reach(0, 3), -1);
        Check.same("no such", x.reach(-1, 0), -1);
        BeamClocks y = Check.told("beam a 50 7;beam b 9 1;clock x a 3 1 1;clock z b 3 1 1;");
        Check.same("without a wall", y.reach(0, 1), 0);
    }

    private static void reach(int give, int stiff, int one, int other, int want) {
        BeamClocks x = Check.told("beam b " + give + " " + stiff + ";clock x b " + one + " 1 1;clock y b " + other + " 1 1;");
        String what = give + " less " + stiff + " times from " + one + " to " + other;
        Check.same(what, x.reach(0, 1), want);
        Check.same(what + ", the other way", x.reach(1, 0), want);
    }

    private static void zeroAtLeast() {
        Check.of("==== 2: GIVE less STIFF times how far their PLACES are, 0 at least");
        reach(10, 3, 0, 3, 1);
        reach(9, 3, 0, 3, 0);
        reach(8, 3, 0, 3, 0);
        reach(99, 0, 0, 30, 99);
        reach(99, 3, 30, 0, 9);
        reach(90, 3, 30, 0, 0);
        reach(91, 3, 0, 30, 1);
        reach(99, 99, 0, 30, 0);
        reach(99, 99, 4, 5, 0);
        reach(99, 98, 5, 4, 1);
        reach(0, 0, 5, 4, 0);
        reach(0, 99, 5, 4, 0);
    }

    private static void theWallOnTwoBeams() {
        Check.of("==== 2: REACH on two BEAMS wall");
        for (int wall : new int[] {0, 1, 99}) {
            BeamClocks x = Check.told("wall " + wall + ";beam a 50 1;beam b 50 1;beam c 7 9;clock x a 3 1 1;clock y b 3 1 1;"
                    + "clock z c 30 1 1;");
            Check.same("a and b", x.reach(0, 1), wall);
            Check.same("b and c", x.reach(1, 2), wall);
            Check.same("c and a", x.reach(2, 0), wall);
            x.hang(1, 0, 4);
            Check.same("on one beam", x.reach(0, 1), 49);
            Check.same("on two beams still", x.reach(1, 2), wall);
        }
    }

    private static void oneAndTheSame() {
        Check.of("promise 7: NONE: one and the same");
        BeamClocks x = Check.told("beam b 9 1;clock x b 0 1 1;clock y b 1 1 1;");
        Check.same("0 and 0", x.reach(0, 0), -1);
        Check.same("1 and 1", x.reach(1, 1), -1);
        Twins.unchanged("reach(1, 1)", y -> y.reach(1, 1), -1);
    }

    private static void noSuchOnes() {
        Check.of("promise 7: NONE: no such ones");
        BeamClocks x = Check.told("beam b 9 1;clock x b 0 1 1;clock y b 1 1 1;");
        Check.same("0 and 2", x.reach(0, 2), -1);
        Check.same("2 and 0", x.reach(2, 0), -1);
        Check.same("0 and -1", x.reach(0, -1), -1);
        Check.same("-1 and 0", x.reach(-1, 0), -1);
        Check.same("2 and 3", x.reach(2, 3), -1);
        Check.same("2 and 2", x.reach(2, 2), -1);
        for (int far : Twins.FAR) {
            Check.same("0 and " + far, x.reach(0, far), -1);
            Check.same(far + " and 1", x.reach(far, 1), -1);
            Check.same(far + " and itself", x.reach(far, far), -1);
        }
        Twins.unchanged("reach(0, 3)", y -> y.reach(0, 3), -1);
    }

    private static void thoseThatDontRunToo() {
        Check.of("==== 2: REACH of two, whether they RUN or not");
        BeamClocks x = Check.told("beam b 9 1;clock x b 0 1 1;clock y b 1 1 1 start 5;");
        Check.same("not started", x.reach(0, 1), 8);
        x.steps(9);
        x.stop(0);
        Check.same("stopped", x.reach(0, 1), 8);
    }
}
