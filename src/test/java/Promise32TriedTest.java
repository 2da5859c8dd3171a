/** Promise 32: tried. */
public final class Promise32TriedTest {
    public static void main(String[] args) {
        ordinary();
        whats0To5();
        theirI();
        noSuchOnes();
        notStartedCount0();
        noLossButDrive();
        weights1InAllTheyDo();
        twiceAsStiff99AtMost();
        startedAt0();
        from0To2000Steps();
        onlyAsked();
        Check.end();
    }

    private static void ordinary() {
        BeamClocks x = Check.told("beam a 99 50;beam b 0 0;wall 99;clock x a 0 1 50;clock y a 1 9 50 phase 200;");
        Check.same("drawn", x.run(0, 17, 0), 1);
        Check.same("0 without y", x.tried(0, 1, 17, 0), 0);
        Check.same("0 without y, of y", x.tried(0, 1, 2000, 1), 0);
        Check.same("0 without x, of y", x.tried(0, 0, 16, 1), 1);
        Check.same("1 without wall", x.tried(1, 0, 17, 0), 1);
        Check.same("4 twice as stiff", x.tried(4, 0, 17, 0), 0);
        Check.same("4 the other beam", x.tried(4, 1, 17, 0), 1);
        Check.same("what 6", x.tried(6, 0, 17, 0), -1);
        Check.same("what -1", x.tried(-1, 0, 17, 0), -1);
        for (int what = 1; what <= 3; what++) {
            Check.same("i 1 of " + what, x.tried(what, 1, 17, 0), -1);
            Check.same("i -1 of " + what, x.tried(what, -1, 17, 0), -1);
        }
        Check.same("no such clock i", x.tried(0, 2, 17, 0), -1);
        Check.same("no such clock i", x.tried(5, -1, 17, 0), -1);
        Check.same("no such beam", x.tried(4, 2, 17, 0), -1);
        Check.same("n 2001", x.tried(1, 0, 2001, 0), -1);
        Check.same("n -1", x.tried(1, 0, -1, 0), -1);
        Check.same("no such clock", x.tried(1, 0, 1, 2), -1);
        Check.same("no such clock", x.tried(1, 0, 1, -1), -1);
        x.hang(1, 1, 1);
        Check.same("drawn by the wall", x.run(0, 17, 0), 1);
        Check.same("1 without wall, hung as now", x.tried(1, 0, 17, 0), 0);
        Check.same("and as it was", x.run(0, 17, 0), 1);
        BeamClocks v = Check.told("beam a 0 0;beam b 0 0;wall 1;clock x a 0 1 52;clock y b 0 9 52 phase 200;");
        Check.same("drawn a little by the wall", v.run(0, 19, 0), 1);
        Check.same("1 without wall it is none", v.tried(1, 0, 19, 0), 0);
        BeamClocks y = Check.told("beam b 0 0;law lose 100;law go weight * 10;clock x b 0 5 1;clock y b 1 1 1 start 90;");
        Check.same("stopped", y.run(0, 20, 0), 0);
        Check.same("2 no loss", y.tried(2, 0, 20, 0), 1);
        Check.same("2 no loss, one step less", y.tried(2, 0, 19, 0), 0);
        BeamClocks z = Check.told("beam b 0 0;law go weight * 10;clock x b 0 5 1;clock y b 1 1 1 start 90;");
        Check.same("by its weight", z.run(0, 20, 0), 1);
        Check.same("3 all weights 1", z.tried(3, 0, 99, 0), 0);
        Check.same("3 all weights 1, one more", z.tried(3, 0, 100, 0), 1);
        Check.same("not started yet", z.run(1, 100, 0), 0);
        Check.same("5 started at 0", z.tried(5, 1, 100, 1), 1);
        Check.same("5 the other one", z.tried(5, 0, 100, 1), 0);
        BeamClocks w = Check.told("beam a 99 40;clock x a 0 1 50;clock y a 1 9 50 phase 200;");
        Check.same("4 twice 40 leaves 19", w.tried(4, 0, 18, 0), 1);
    }

    private static final String TWO = "beam a 50 3;beam b 0 0;wall 9;law lose 1;law go speed - swing / 100;clock x a 0 2 50;"
            + "clock y a 1 9 50 phase 200 start 3;";

    private static void whats0To5() {
        Check.of("promise 32: TRIED 0 .. 5");
        BeamClocks x = Check.told(TWO);
        for (int what = 0; what <= 5; what++) {
            Check.yes("what " + what, x.tried(what, 0, 30, 0) >= 0);
        }
        Check.same("what 6", x.tried(6, 0, 30, 0), -1);
        Check.same("what -1", x.tried(-1, 0, 30, 0), -1);
        for (int far : Twins.FAR) {
            Check.same("what " + far, x.tried(far, 0, 30, 0), -1);
        }
    }

    private static void theirI() {
        Check.of("promise 32: NONE: no such ones (i 0 of 1, 2, 3)");
        BeamClocks x = Check.told("beam a 50 3;beam b 0 0;beam c 0 0;clock x a 0 2 50;clock y a 1 9 50;");
        int[] last = {1, 0, 0, 0, 2, 1};
        for (int what = 0; what <= 5; what++) {
            for (int i = 0; i <= 6; i++) {
                boolean there = i <= last[what];
                Check.same("i " + i + " of " + what, x.tried(what, i, 30, 0) >= 0 ? 1 : 0, there ? 1 : 0);
            }
            Check.same("i -1 of " + what, x.tried(what, -1, 30, 0), -1);
            for (int far : Twins.FAR) {
                Check.same("i " + far + " of " + what, x.tried(what, far, 30, 0), -1);
            }
        }
        BeamClocks six = Check.told("beam b 0 0;clock u b 0 1 1;clock v b 1 1 1;clock w b 2 1 1;clock x b 3 1 1;"
                + "clock y b 4 1 1;clock z b 5 1 10;");
        Check.same("the sixth", six.tried(0, 5, 100, 5), 0);
        Check.same("without another", six.tried(0, 4, 100, 5), 1);
        Check.same("a seventh", six.tried(0, 6, 100, 5), -1);
        Check.same("a second beam", six.tried(4, 1, 100, 5), -1);
    }

    private static void noSuchOnes() {
        Check.of("promise 32: NONE: no such ones");
        Twins.unchanged("what 6", x -> x.tried(6, 0, 5, 0), -1);
        Twins.unchanged("what -1", x -> x.tried(-1, 0, 5, 0), -1);
        Twins.unchanged("clock 3", x -> x.tried(1, 0, 5, 3), -1);
        Twins.unchanged("clock -1", x -> x.tried(1, 0, 5, -1), -1);
        Twins.unchanged("n 2001", x -> x.tried(1, 0, 2001, 0), -1);
        Twins.unchanged("n -1", x -> x.tried(1, 0, -1, 0), -1);
        Twins.unchanged("i 3 of 0", x -> x.tried(0, 3, 5, 0), -1);
        Twins.unchanged("i 2 of 4", x -> x.tried(4, 2, 5, 0), -1);
        Twins.unchanged("i 1 of 2", x -> x.tried(2, 1, 5, 0), -1);
        BeamClocks x = Check.told(TWO);
        for (int far : Twins.FAR) {
            Check.same("n " + far, x.tried(1, 0, far, 0), -1);
            Check.same("clock " + far, x.tried(1, 0, 5, far), -1);
        }
    }

    private static void notStartedCount0() {
        Check.of("==== 3: TRIED 0 without CLOCK i (it isn't started; its COUNT 0)");
        BeamClocks x = Check.told("beam b 99 0;clock x b 0 1 50;clock y b 1 9 50 phase 999;");
        Check.same("with it", x.run(1, 1, 0), 1);
        Check.same("it isn't started", x.tried(0, 1, 2000, 1), 0);
        Check.same("the other goes by itself", x.tried(0, 1, 19, 0), 0);
        Check.same("and strikes in 19", x.tried(0, 1, 20, 0), 1);
        Check.same("without itself", x.tried(0, 0, 2000, 0), 0);
    }

    private static void noLossButDrive() {
        Check.of("==== 3: TRIED 2 no loss");
        BeamClocks x = Check.told("beam b 0 0;law lose 100;law go swing / 10;clock x b 0 1 1 drive 50 swing 100;");
        // with loss 50 less each step: 5, then it is stopped; without 15, 20, 25, ..
        Check.same("with loss", x.run(0, 2000, 0), 0);
        Check.same("no loss, by 17 steps", x.tried(2, 0, 17, 0), 0);
        Check.same("no loss, by 18 steps", x.tried(2, 0, 18, 0), 1);
        BeamClocks little = Check.told("beam b 0 0;law lose 1;law go swing;clock x b 0 1 1 swing 10;");
        Check.same("less and less", little.run(0, 2000, 0), 0);
        Check.same("no loss at all: 10 a step", little.tried(2, 0, 100, 0), 1);
        Check.same("nor any gain", little.tried(2, 0, 99, 0), 0);
        BeamClocks none = Check.told("beam b 0 0;clock x b 0 1 50;");
        Check.same("without such a law", none.tried(2, 0, 20, 0), 1);
    }

    private static void weights1InAllTheyDo() {
        Check.of("==== 3: TRIED 3 all WEIGHTS 1");
        BeamClocks law = Check.told("beam b 0 0;law go weight * 10;clock x b 0 9 1;");
        Check.same("by 9", law.run(0, 12, 0), 1);
        Check.same("by 1", law.tried(3, 0, 99, 0), 0);
        Check.same("by 1, one more", law.tried(3, 0, 100, 0), 1);
        // x is drawn by y's weight, and is slow by its own
        BeamClocks pulled = Check.told("beam b 99 0;clock x b 0 1 50;clock y b 1 9 50 phase 200;");
        Check.same("by 9 times", pulled.run(0, 17, 0), 1);
        Check.same("by 1 times", pulled.tried(3, 0, 17, 0), 0);
        StringBuilder six = new StringBuilder("beam b 0 0;law go weight * 10;");
        for (int clock = 0; clock < 6; clock++) {
            six.append("clock ").append((char) ('p' + clock)).append(" b ").append(clock).append(" 2 1;");
        }
        BeamClocks all = Check.told(six.toString());
        for (int clock = 0; clock < 6; clock++) {
            Check.same("clock " + clock + " by 2", all.run(clock, 50, 0), 1);
            Check.same("clock " + clock + " by 1", all.tried(3, 0, 99, clock), 0);
            Check.same("clock " + clock + " by 1, one more", all.tried(3, 0, 100, clock), 1);
        }
        BeamClocks heavy = Check.told("beam b 99 0;clock x b 0 9 50;clock y b 1 1 50 phase 200;");
        Check.same("too heavy", heavy.run(0, 19, 0), 0);
        Check.same("light", heavy.tried(3, 0, 19, 0), 1);
    }

    private static void twiceAsStiff99AtMost() {
        Check.of("==== 3: TRIED 4 BEAM i twice as STIFF (99 at most)");
        // reach 99 less stiff at one place apart: y draws x by 9 times that times 200
        int[][] due = {{0, 1}, {1, 1}, {40, 1}, {49, 0}, {50, 0}, {98, 0}, {99, 0}};
        for (int[] row : due) {
            BeamClocks x = Check.told("beam a 99 " + row[0] + ";beam b 0 0;clock x a 0 1 50;clock y a 1 9 50 phase 200;");
            Check.same("stiff " + row[0], x.tried(4, 0, 18, 0), row[1]);
            Check.same("stiff " + row[0] + ", the other beam", x.tried(4, 1, 18, 0), x.run(0, 18, 0));
        }
        // twice 49 leaves a reach of 1, by which two draw x a step sooner to its stroke; twice 50 leaves none
        int[] stiff = {49, 50, 98, 99};
        for (int one : stiff) {
            BeamClocks x = Check.told("beam a 99 " + one + ";clock x a 5 1 50;clock y a 4 9 50 phase 250;"
                    + "clock z a 6 9 50 phase 250;");
            Check.same("stiff " + one + ", 19 steps", x.tried(4, 0, 19, 0), one == 49 ? 1 : 0);
            Check.same("stiff " + one + ", 20 steps", x.tried(4, 0, 20, 0), 1);
        }
        // twice 0 is 0: over all 30 places y draws x, at rest by itself, as over one
        BeamClocks none = Check.told("beam a 99 0;law go 50 * (weight > 1);clock x a 0 1 1;clock y a 30 9 1 phase 230;");
        Check.same("as it is", none.run(0, 17, 0), 1);
        Check.same("twice 0", none.tried(4, 0, 17, 0), 1);
        BeamClocks some = Check.told("beam a 99 1;law go 50 * (weight > 1);clock x a 0 1 1;clock y a 30 9 1 phase 230;");
        Check.same("stiff 1 is not 0", some.run(0, 17, 0), 0);
    }

    private static void startedAt0() {
        Check.of("==== 3: TRIED 5 CLOCK i is started at 0");
        BeamClocks x = Check.told("beam b 0 0;clock x b 0 1 10 start 999;clock y b 1 1 10 start 1;clock z b 2 1 10;");
        Check.same("x at 0", x.tried(5, 0, 100, 0), 1);
        Check.same("x at 0, one step less", x.tried(5, 0, 99, 0), 0);
        Check.same("y at 1", x.tried(5, 0, 100, 1), 0);
        Check.same("y at 0", x.tried(5, 1, 100, 1), 1);
        Check.same("x at 999", x.tried(5, 1, 1098, 0), 0);
        Check.same("x at 999, one more", x.tried(5, 1, 1099, 0), 1);
        Check.same("z at 0 anyhow", x.tried(5, 2, 100, 2), 1);
    }

    private static void from0To2000Steps() {
        Check.of("==== 3: TRIED in a RUN: n STEPS (0 .. 2000)");
        BeamClocks x = Check.told("beam b 0 0;clock x b 0 1 10;");
        Check.same("0", x.tried(1, 0, 0, 0), 0);
        Check.same("1999", x.tried(1, 0, 1999, 0), 19);
        Check.same("2000", x.tried(1, 0, 2000, 0), 20);
        Check.same("2001", x.tried(1, 0, 2001, 0), -1);
    }

    private static void onlyAsked() {
        Check.of("promise 32: it is only tried");
        for (int what = 0; what <= 5; what++) {
            int w = what;
            Twins.unchanged("tried " + what, x -> x.tried(w, 0, 300, 1), Twins.made(Twins::rich).tried(w, 0, 300, 1));
        }
        BeamClocks x = Check.told(TWO);
        int ahead = x.run(0, 300, 1);
        for (int what = 0; what <= 5; what++) {
            x.tried(what, 0, 30, 0);
            Check.same("a run behind tried " + what, x.run(0, 300, 1), ahead);
        }
    }
}
