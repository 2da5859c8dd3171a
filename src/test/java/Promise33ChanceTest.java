/** Promise 33: chance. */
public final class Promise33ChanceTest {
    public static void main(String[] args) {
        ordinary();
        seeds0ToTheGreatest();
        from0To500Steps();
        by0To500();
        allRun();
        noSuchOnes();
        numbersByClocks();
        onlyAsked();
        Check.end();
    }

    private static void ordinary() {
        BeamClocks x = Check.told("beam b 0 0;clock x b 0 1 10;clock y b 1 1 10;");
        // by seed 1: 838 758, 113 515, 51 627, 10 419, 212 86, 749 767, 84 60, 225 543, 89 183, 137 566
        Check.same("w 17", x.chance(1, 1, 17), 0);
        Check.same("w 18", x.chance(1, 1, 18), 1);
        Check.same("w 24", x.chance(1, 1, 24), 2);
        Check.same("w 80", x.chance(1, 500, 80), 3);
        Check.same("w 94", x.chance(1, 1, 94), 4);
        Check.same("w 126", x.chance(1, 1, 126), 5);
        Check.same("w 318", x.chance(1, 1, 318), 6);
        Check.same("w 429", x.chance(1, 1, 429), 10);
        Check.same("w 428", x.chance(1, 1, 428), 9);
        Check.same("n 0: none runs", x.chance(1, 0, 500), 0);
        Check.same("seed MAX", x.chance(Integer.MAX_VALUE, 1, 500), 10);
        Check.same("seed 0", x.chance(0, 1, 500), 10);
        Check.same("seed -1", x.chance(-1, 1, 500), -1);
        Check.same("n 501", x.chance(1, 501, 500), -1);
        Check.same("n -1", x.chance(1, -1, 500), -1);
        Check.same("w 501", x.chance(1, 1, 501), -1);
        Check.same("w -1", x.chance(1, 1, -1), -1);
        Check.same("nothing changed", Check.look(x, 0, 4), 0);
        Check.same("no clocks at all", new BeamClocks().chance(1, 0, 0), 10);
        BeamClocks y = Check.told("beam b 0 0;clock x b 0 1 10;clock y b 1 1 10 start 3;");
        Check.same("not all run", y.chance(1, 3, 500), 0);
        Check.same("all run", y.chance(1, 4, 500), 10);
    }

    /** The phases that a seed's ten draws have, reckoned here once more. */
    private static int[][] draws(int seed, int clocks) {
        int[][] phases = new int[10][clocks];
        java.math.BigInteger last = java.math.BigInteger.valueOf(seed);
        for (int[] draw : phases) {
            for (int i = 0; i < clocks; i++) {
                last = last.multiply(java.math.BigInteger.valueOf(1103515245)).add(java.math.BigInteger.valueOf(12345))
                        .mod(java.math.BigInteger.ONE.shiftLeft(31));
                draw[i] = last.shiftRight(16).intValue() % 1000;
            }
        }
        return phases;
    }

    private static int apart(int one, int other) {
        int d = Math.abs(one - other);
        return Math.min(d, 1000 - d);
    }

    private static int within(int seed, int clocks, int w) {
        int found = 0;
        for (int[] draw : draws(seed, clocks)) {
            boolean all = true;
            for (int one : draw) {
                for (int other : draw) {
                    all &= apart(one, other) <= w;
                }
            }
            found += all ? 1 : 0;
        }
        return found;
    }

    private static void seeds0ToTheGreatest() {
        Check.of("==== 3: CHANCE: at first the seed, 0 .. 2147483647; without what is above 31 bits");
        BeamClocks x = Check.told("beam b 0 0;clock x b 0 1 10;clock y b 1 1 10;clock z b 2 1 10;");
        for (int seed : new int[] {0, 1, 2, 65535, 65536, 1 << 30, Integer.MAX_VALUE - 1, Integer.MAX_VALUE}) {
            for (int w = 0; w <= 500; w += 25) {
                Check.same("seed " + seed + " by " + w, x.chance(seed, 1, w), within(seed, 3, w));
            }
        }
    }

    private static void from0To500Steps() {
        Check.of("promise 33: n 0 .. 500");
        BeamClocks x = Check.told("beam b 0 0;law lose step / 499 * 999;clock x b 0 1 10;");
        Check.same("0: it isn't started", x.chance(1, 0, 500), 0);
        Check.same("1", x.chance(1, 1, 500), 10);
        Check.same("499", x.chance(1, 499, 500), 10);
        Check.same("500: step 499 stops it", x.chance(1, 500, 500), 0);
        Check.same("501", x.chance(1, 501, 500), -1);
        Check.same("-1", x.chance(1, -1, 500), -1);
    }

    private static void by0To500() {
        Check.of("promise 33: IN STEP by w (0 .. 500)");
        BeamClocks x = Check.told("beam b 0 0;clock x b 0 1 10;clock y b 1 1 10;");
        int[][] first = draws(7, 2);
        for (int[] draw : first) {
            int w = apart(draw[0], draw[1]);
            Check.same("by " + w, x.chance(7, 1, w), within(7, 2, w));
            if (w > 0) {
                Check.same("by one less than " + w, x.chance(7, 1, w - 1), within(7, 2, w - 1));
            }
        }
        Check.same("by 0", x.chance(7, 1, 0), within(7, 2, 0));
        Check.same("by 500", x.chance(7, 1, 500), 10);
        Check.same("by 501", x.chance(7, 1, 501), -1);
        Check.same("by -1", x.chance(7, 1, -1), -1);
    }

    private static void allRun() {
        Check.of("==== 3: CHANCE: at the end of a RUN all RUN");
        BeamClocks late = Check.told("beam b 0 0;clock x b 0 1 10;clock y b 1 1 10 start 499;");
        Check.same("499 steps", late.chance(1, 499, 500), 0);
        Check.same("500 steps", late.chance(1, 500, 500), 10);
        BeamClocks stops = Check.told("beam b 0 0;law lose 250;clock x b 0 1 10;");
        Check.same("it runs", stops.chance(1, 1, 500), 10);
        Check.same("it is stopped", stops.chance(1, 2, 500), 0);
        Check.same("no clocks", new BeamClocks().chance(1, 500, 0), 10);
    }

    private static void noSuchOnes() {
        Check.of("promise 33: NONE: no such ones");
        Twins.unchanged("seed -1", x -> x.chance(-1, 5, 500), -1);
        Twins.unchanged("n 501", x -> x.chance(1, 501, 500), -1);
        Twins.unchanged("n -1", x -> x.chance(1, -1, 500), -1);
        Twins.unchanged("w 501", x -> x.chance(1, 5, 501), -1);
        Twins.unchanged("w -1", x -> x.chance(1, 5, -1), -1);
        BeamClocks x = Twins.made(Twins::rich);
        Check.same("seed MIN", x.chance(Integer.MIN_VALUE, 5, 500), -1);
        for (int far : Twins.FAR) {
            Check.same("n " + far, x.chance(1, far, 500), -1);
            Check.same("w " + far, x.chance(1, 5, far), -1);
        }
    }

    private static void numbersByClocks() {
        Check.of("==== 3: CHANCE: ten draws, in each the phases are numbers modulo 1000, by CLOCKS");
        // the phases told don't count, those of six clocks are six numbers
        StringBuilder text = new StringBuilder("beam b 0 0;");
        for (int clocks = 1; clocks <= 6; clocks++) {
            text.append("clock ").append((char) ('p' + clocks)).append(" b ").append(clocks).append(" 1 10 phase 500;");
            BeamClocks x = Check.told(text.toString());
            for (int w = 0; w <= 500; w += 20) {
                Check.same(clocks + " clocks by " + w, x.chance(3, 1, w), within(3, clocks, w));
            }
        }
        // only the second goes: 10 more, so that which is which tells
        BeamClocks second = Check.told("beam b 0 0;law go place;clock x b 0 1 1;clock y b 30 1 1;");
        int due = 0;
        for (int[] draw : draws(11, 2)) {
            due += apart(draw[0], (draw[1] + 300) % 1000) <= 250 ? 1 : 0;
        }
        Check.same("the second is 300 farther", second.chance(11, 10, 250), due);
    }

    private static void onlyAsked() {
        Check.of("promise 33: it is only tried, and the same seed has the same answer");
        Twins.unchanged("chance", x -> x.chance(5, 200, 200), Twins.made(Twins::rich).chance(5, 200, 200));
        BeamClocks x = Check.told("beam b 0 0;clock x b 0 1 10;clock y b 1 1 10;");
        int first = x.chance(9, 20, 100);
        x.chance(10, 20, 100);
        Check.same("again", x.chance(9, 20, 100), first);
        Check.same("its phase", Check.look(x, 0, 4), 0);
        Check.same("a run has the phases told", x.run(0, 5, 1), 50);
    }
}
