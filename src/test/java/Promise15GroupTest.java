/** Promise 15: group. */
public final class Promise15GroupTest {
    public static void main(String[] args) {
        ordinary();
        ofEveryClock();
        longChains();
        itDoesntRun();
        noSuchOnes();
        noneGoesFirst();
        Check.end();
    }

    private static void ordinary() {
        BeamClocks x = Check.told("beam b 0 0;law go 0;clock p b 0 1 1 phase 980;clock q b 1 1 1 phase 20;"
                + "clock r b 2 1 1 phase 500;clock s b 3 1 1 phase 60;clock t b 4 1 1 phase 5 start 3;");
        Check.same("none runs", x.groups(500), 0);
        x.steps(1);
        Check.same("groups(40)", x.groups(40), 2);
        Check.same("groups(39)", x.groups(39), 4);
        Check.same("groups(500)", x.groups(500), 1);
        Check.same("groups(501)", x.groups(501), -1);
        Check.same("groups(-1)", x.groups(-1), -1);
        Check.same("from one to the next", x.group(0, 40), 1 | 2 | 8);
        Check.same("from the last", x.group(3, 40), 1 | 2 | 8);
        Check.same("alone", x.group(2, 40), 4);
        Check.same("it doesn't run", x.group(4, 40), 0);
        Check.same("no such", x.group(5, 40), -1);
        Check.same("no such", x.group(-1, 40), -1);
        Check.same("no such n", x.group(4, 501), -1);
        x.stop(1);
        Check.same("one that links is stopped", x.group(0, 40), 1);
        Check.same("groups then", x.groups(40), 3);
        x.steps(3);
        Check.same("one that links is started", x.group(3, 55), 1 | 8 | 16);
    }

    private static void ofEveryClock() {
        Check.of("promise 15: the GROUP of a CLOCK by n (bits)");
        BeamClocks x = Check.told("beam b 0 0;law go 0;clock p b 0 1 1;clock q b 1 1 1 phase 100;clock r b 2 1 1 phase 201;"
                + "clock s b 3 1 1 phase 999;clock t b 4 1 1 phase 500;clock u b 5 1 1 phase 500;");
        x.steps(1);
        int[][] due = {{0, 1, 2, 4, 8, 48, 48}, {1, 9, 2, 4, 9, 48, 48}, {99, 9, 2, 4, 9, 48, 48}, {100, 11, 11, 4, 11, 48, 48},
            {101, 15, 15, 15, 15, 48, 48}, {298, 15, 15, 15, 15, 48, 48}, {299, 63, 63, 63, 63, 63, 63},
            {500, 63, 63, 63, 63, 63, 63}};
        for (int[] row : due) {
            for (int clock = 0; clock < 6; clock++) {
                Check.same("group(" + clock + ", " + row[0] + ")", x.group(clock, row[0]), row[clock + 1]);
            }
        }
    }

    private static void longChains() {
        Check.of("==== 2: two IN STEP are in one, and so on from one to the next");
        // numbered so that each leads to the next one only, up and down
        int[][] orders = {{0, 1, 2, 3, 4, 5}, {5, 4, 3, 2, 1, 0}, {3, 0, 5, 1, 4, 2}, {2, 5, 0, 4, 1, 3}};
        for (int[] order : orders) {
            StringBuilder text = new StringBuilder("beam b 0 0;law go 0;");
            for (int clock = 0; clock < 6; clock++) {
                text.append("clock ").append((char) ('p' + clock)).append(" b ").append(clock).append(" 1 1 phase ")
                        .append(order[clock] * 70).append(';');
            }
            BeamClocks x = Check.told(text.toString());
            x.steps(1);
            for (int clock = 0; clock < 6; clock++) {
                Check.same("of " + clock + " by 70", x.group(clock, 70), 63);
                Check.same("of " + clock + " by 69", x.group(clock, 69), 1 << clock);
            }
        }
    }

    private static void itDoesntRun() {
        Check.of("promise 15: 0: it doesn't RUN");
        BeamClocks x = Check.told("beam b 0 0;law go 0;clock p b 0 1 1;clock q b 1 1 1;clock r b 2 1 1 start 3;");
        for (int clock = 0; clock < 3; clock++) {
            Check.same("no step yet", x.group(clock, 500), 0);
        }
        x.steps(1);
        Check.same("p and q", x.group(0, 0), 3);
        Check.same("r is not started", x.group(2, 500), 0);
        x.stop(0);
        Check.same("p is stopped", x.group(0, 500), 0);
        Check.same("q alone", x.group(1, 500), 2);
    }

    private static void noSuchOnes() {
        Check.of("promise 15: NONE: no such ones");
        BeamClocks x = Twins.made(Twins::rich);
        Check.same("clock 3", x.group(3, 500), -1);
        Check.same("clock -1", x.group(-1, 500), -1);
        Check.same("n -1", x.group(0, -1), -1);
        Check.same("n 501", x.group(0, 501), -1);
        for (int far : Twins.FAR) {
            Check.same("clock " + far, x.group(far, 500), -1);
            Check.same("n " + far, x.group(0, far), -1);
        }
        Twins.unchanged("group(3, 0)", y -> y.group(3, 0), -1);
        Twins.unchanged("group(0, 501)", y -> y.group(0, 501), -1);
    }

    private static void noneGoesFirst() {
        Check.of("==== 4: of several answers that hold NONE goes first");
        BeamClocks x = Check.told("beam b 0 0;clock p b 0 1 1 start 3;");
        Check.same("it doesn't run, n 501", x.group(0, 501), -1);
        Check.same("it doesn't run, n -1", x.group(0, -1), -1);
        Check.same("it doesn't run", x.group(0, 500), 0);
    }
}
