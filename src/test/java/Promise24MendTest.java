/** Promise 24: mend. */
public final class Promise24MendTest {
    public static void main(String[] args) {
        ordinary();
        ninePerSide();
        speeds1To99();
        theLeastChange();
        thatBelow0();
        nearestFromBothSides();
        noSuchOnes();
        inARunOfAll();
        Check.end();
    }

    private static void ordinary() {
        BeamClocks x = Check.told("beam b 0 0;clock x b 0 1 10;clock y b 1 1 3;clock z b 2 1 98;");
        Check.same("3 of 200 by 15", x.mend(0, 200, 3), 5);
        Check.same("2 of 200", x.mend(0, 200, 2), 0);
        Check.same("1 of 200 by 9", x.mend(0, 200, 1), -1);
        Check.same("0 of 200 by 4", x.mend(0, 200, 0), -6);
        Check.same("all too few: 3 by 15 is the nearest", x.mend(0, 200, 999), 5);
        Check.same("1 at least", x.mend(1, 1000, 0), -2);
        Check.same("99 at most", x.mend(2, 1000, 999), 1);
        Check.same("n 0", x.mend(0, 0, 5), 0);
        Check.same("count 1000", x.mend(0, 10, 1000), Integer.MIN_VALUE);
        Check.same("count -1", x.mend(0, 10, -1), Integer.MIN_VALUE);
        Check.same("n 2001", x.mend(0, 2001, 1), Integer.MIN_VALUE);
        Check.same("n -1", x.mend(0, -1, 1), Integer.MIN_VALUE);
        Check.same("no such", x.mend(3, 1, 1), Integer.MIN_VALUE);
        Check.same("no such", x.mend(-1, 1, 1), Integer.MIN_VALUE);
        Check.same("its speed stays", Check.look(x, 0, 3), 10);
        BeamClocks y = Check.told("beam b 0 0;law go (speed <> 10) * 10;clock x b 0 1 10;");
        Check.same("of two alike that below 0", y.mend(0, 100, 1), -1);
        BeamClocks z = Check.told("beam b 0 0;law go (speed <> 10) * (speed > 8) * 10;clock x b 0 1 10 phase 990;");
        Check.same("nearest from above and below", z.mend(0, 100, 0), 0);
    }

    private static void ninePerSide() {
        Check.of("==== 3: MEND by -9 .. 9 SPEED more");
        // it strikes only at one speed
        for (int change = -12; change <= 12; change++) {
            BeamClocks x = Check.told("beam b 0 0;law go 50 * (speed = " + (50 + change) + ");clock x b 0 1 50;");
            int due = change >= -9 && change <= 9 ? change : 0;
            Check.same("at " + change, x.mend(0, 20, 1), due);
            Check.same("its speed stays", Check.look(x, 0, 3), 50);
        }
    }

    private static void speeds1To99() {
        Check.of("==== 3: MEND: 1 .. 99 then, others left out");
        for (int speed : new int[] {1, 2, 5, 9, 10, 11, 89, 90, 91, 95, 98, 99}) {
            // the nearest to 999 is the fastest, the nearest to 0 the slowest, if every step of speed tells
            BeamClocks x = Check.told("beam b 0 0;clock x b 0 1 " + speed + ";");
            int up = Math.min(99, speed + 9);
            int down = Math.max(1, speed - 9);
            Check.same("up from " + speed, x.mend(0, 2000, 999), up - speed);
            Check.same("down from " + speed, x.mend(0, 2000, 0), down - speed);
        }
        BeamClocks zero = Check.told("beam b 0 0;law go (speed < 1) * 50;clock x b 0 1 3;");
        Check.same("0 is left out", zero.mend(0, 20, 1), 0);
        BeamClocks hundred = Check.told("beam b 0 0;law go (speed > 99) * 50;clock x b 0 1 97;");
        Check.same("100 is left out", hundred.mend(0, 20, 1), 0);
    }

    private static void theLeastChange() {
        Check.of("==== 3: MEND: of several the least change");
        BeamClocks up = Check.told("beam b 0 0;law go 50 * (speed > 52);clock x b 0 1 50;");
        Check.same("3 and more", up.mend(0, 20, 1), 3);
        BeamClocks down = Check.told("beam b 0 0;law go 50 * (speed < 46);clock x b 0 1 50;");
        Check.same("-5 and less", down.mend(0, 20, 1), -5);
        BeamClocks none = Check.told("beam b 0 0;law go 50;clock x b 0 1 50;");
        Check.same("all alike", none.mend(0, 20, 1), 0);
        Check.same("all alike, and far", none.mend(0, 20, 999), 0);
        BeamClocks both = Check.told("beam b 0 0;law go 50 * (speed > 52 or speed < 46);clock x b 0 1 50;");
        Check.same("3 is less than -5", both.mend(0, 20, 1), 3);
        BeamClocks other = Check.told("beam b 0 0;law go 50 * (speed > 55 or speed < 46);clock x b 0 1 50;");
        Check.same("-5 is less than 6", other.mend(0, 20, 1), -5);
        Check.same("n 0: all alike", up.mend(0, 0, 0), 0);
    }

    private static void thatBelow0() {
        Check.of("==== 3: MEND: of two alike that below 0");
        for (int change = 1; change <= 9; change++) {
            BeamClocks x = Check.told("beam b 0 0;law go 50 * (speed = " + (50 + change) + " or speed = " + (50 - change)
                    + ");clock x b 0 1 50;");
            Check.same("of " + change + " and less", x.mend(0, 20, 1), -change);
        }
        BeamClocks edge = Check.told("beam b 0 0;law go 50 * (speed = 4 or speed = 0);clock x b 0 1 2;");
        Check.same("below 1 there is none", edge.mend(0, 20, 1), 2);
    }

    private static void nearestFromBothSides() {
        Check.of("==== 3: MEND: its COUNT is the nearest to a told one");
        // speeds 49, 50, 51 have counts of 2, 6, 8 in 100 steps
        BeamClocks x = Check.told("beam b 0 0;law go 20 * (speed = 49) + 60 * (speed = 50) + 80 * (speed = 51);clock x b 0 1 50;");
        int[][] due = {{0, -2}, {1, -1}, {2, -1}, {3, -1}, {4, 0}, {5, 0}, {6, 0}, {7, 0}, {8, 1}, {9, 1}, {999, 1}};
        for (int[] row : due) {
            Check.same("to " + row[0], x.mend(0, 100, row[0]), row[1]);
        }
    }

    private static void noSuchOnes() {
        Check.of("promise 24: Integer.MIN_VALUE: no such ones (a told COUNT 0 .. 999)");
        int none = Integer.MIN_VALUE;
        Twins.unchanged("clock 3", x -> x.mend(3, 5, 0), none);
        Twins.unchanged("clock -1", x -> x.mend(-1, 5, 0), none);
        Twins.unchanged("n 2001", x -> x.mend(0, 2001, 0), none);
        Twins.unchanged("n -1", x -> x.mend(0, -1, 0), none);
        Twins.unchanged("count 1000", x -> x.mend(0, 5, 1000), none);
        Twins.unchanged("count -1", x -> x.mend(0, 5, -1), none);
        BeamClocks x = Twins.made(Twins::rich);
        Check.yes("clock 2, n 2000, count 999", x.mend(2, 2000, 999) >= -9);
        Check.yes("n 0, count 0", x.mend(2, 0, 0) >= -9);
        for (int far : Twins.FAR) {
            Check.same("clock " + far, x.mend(far, 5, 0), none);
            Check.same("n " + far, x.mend(0, far, 0), none);
            Check.same("count " + far, x.mend(0, 5, far), none);
        }
    }

    private static void inARunOfAll() {
        Check.of("==== 3: MEND: its COUNT in a RUN");
        Twins.unchanged("mend", x -> x.mend(0, 300, 9), Twins.made(Twins::rich).mend(0, 300, 9));
        // drawn by y it needs no change to strike by 17, alone it would
        BeamClocks x = Check.told("beam b 99 0;beam c 0 0;clock x b 0 1 50;clock y b 1 9 50 phase 200;");
        Check.same("drawn", x.mend(0, 17, 1), 0);
        x.hang(0, 1, 0);
        Check.same("hung as now: 59 a step at 17", x.mend(0, 17, 1), 9);
        Check.same("of the other one", x.mend(1, 17, 1), 0);
    }
}
