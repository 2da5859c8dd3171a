/** Promise 6: look. */
public final class Promise06LookTest {
    private static final int NO_CLOCK = 1000000;
    private static final int NO_WHAT = 2000000;

    public static void main(String[] args) {
        ordinary();
        noSuchClock();
        noSuchWhat();
        theClockGoesAheadOfTheWhat();
        startedAndStopped();
        Check.end();
    }

    private static void ordinary() {
        BeamClocks x = Check.told("beam a 0 0;beam b 0 0;clock x b 5 3 40 phase 7 swing 9 start 1;clock y a 2 1 50;");
        int[] want = {1, 5, 3, 40, 7, 9, 0, 0};
        for (int what = 0; what <= 7; what++) {
            Check.same("look(0, " + what + ")", Check.look(x, 0, what), want[what]);
        }
        Check.same("swing of none told", Check.look(x, 1, 5), 500);
        Check.same("what 8", Check.look(x, 0, 8), 2000000);
        Check.same("what -1", Check.look(x, 0, -1), 2000000);
        Check.same("clock 2", Check.look(x, 2, 0), 1000000);
        Check.same("clock -1", Check.look(x, -1, 0), 1000000);
        Check.same("neither: the clock goes first", Check.look(x, 2, 8), 1000000);
        x.steps(1);
        Check.same("not started in step 0", Check.look(x, 0, 7), 0);
        Check.same("started in step 0", Check.look(x, 1, 7), 1);
        x.steps(1);
        Check.same("started in step 1, and went", Check.look(x, 0, 4), 47);
        Check.same("it runs", Check.look(x, 0, 7), 1);
        x.stop(0);
        Check.same("stopped", Check.look(x, 0, 7), 2);
        x.steps(18);
        Check.same("count of y by 20 steps", Check.look(x, 1, 6), 1);
        Check.same("phase of y by 20 steps", Check.look(x, 1, 4), 0);
    }

    private static void noSuchClock() {
        Check.of("promise 6: IndexOutOfBoundsException: no such CLOCK");
        BeamClocks x = Twins.made(Twins::rich);
        for (int what = 0; what <= 7; what++) {
            Check.yes("the last clock, what " + what, Check.look(x, 2, what) < NO_CLOCK);
            Check.same("one more, what " + what, Check.look(x, 3, what), NO_CLOCK);
            Check.same("-1, what " + what, Check.look(x, -1, what), NO_CLOCK);
            for (int clock : Twins.FAR) {
                Check.same("clock " + clock, Check.look(x, clock, what), NO_CLOCK);
            }
        }
        Twins.unchanged("look(3, 0)", y -> Check.look(y, 3, 0), NO_CLOCK);
        Twins.unchanged("look(-1, 0)", y -> Check.look(y, -1, 0), NO_CLOCK);
        Check.same("of none", Check.look(new BeamClocks(), 0, 0), NO_CLOCK);
        BeamClocks six = Check.told("beam b 0 0;clock u b 0 1 1;clock v b 1 1 2;clock w b 2 1 3;clock x b 3 1 4;"
                + "clock y b 4 1 5;clock z b 5 1 6;");
        Check.same("the sixth", Check.look(six, 5, 3), 6);
        Check.same("a seventh", Check.look(six, 6, 3), NO_CLOCK);
        Check.tell(six, "beam b 0 0;clock u b 0 1 1;");
        Check.same("told no more", Check.look(six, 1, 3), NO_CLOCK);
    }

    private static void noSuchWhat() {
        Check.of("promise 6: NoSuchElementException: no such what");
        BeamClocks x = Twins.made(Twins::rich);
        for (int clock = 0; clock < 3; clock++) {
            Check.yes("what 7", Check.look(x, clock, 7) <= 2);
            Check.same("what 8", Check.look(x, clock, 8), NO_WHAT);
            Check.same("what -1", Check.look(x, clock, -1), NO_WHAT);
            for (int what : Twins.FAR) {
                Check.same("what " + what, Check.look(x, clock, what), NO_WHAT);
            }
        }
        Twins.unchanged("look(0, 8)", y -> Check.look(y, 0, 8), NO_WHAT);
        Twins.unchanged("look(0, -1)", y -> Check.look(y, 0, -1), NO_WHAT);
    }

    private static void theClockGoesAheadOfTheWhat() {
        Check.of("==== 4: IndexOutOfBoundsException goes ahead of NoSuchElementException");
        BeamClocks x = Twins.made(Twins::rich);
        for (int what : new int[] {8, -1, Integer.MIN_VALUE, Integer.MAX_VALUE}) {
            for (int clock : new int[] {3, -1, Integer.MIN_VALUE, Integer.MAX_VALUE}) {
                Check.same("look(" + clock + ", " + what + ")", Check.look(x, clock, what), NO_CLOCK);
            }
        }
    }

    private static void startedAndStopped() {
        Check.of("promise 6: 7 1: it RUNS, 0: not started, 2: STOPPED");
        BeamClocks x = Check.told("beam b 0 0;law lose 250;clock u b 0 1 1;clock v b 1 1 1 start 2;clock w b 2 1 1 start 9;");
        int[][] due = {{0, 0, 0}, {1, 0, 0}, {2, 0, 0}, {2, 1, 0}, {2, 2, 0}, {2, 2, 0}};
        for (int step = 0; step < due.length; step++) {
            for (int clock = 0; clock < 3; clock++) {
                Check.same("clock " + clock + " with step " + step + " next", Check.look(x, clock, 7), due[step][clock]);
            }
            x.steps(1);
        }
        x.stop(2);
        Check.same("stopped ahead of its start", Check.look(x, 2, 7), 2);
        x.steps(10);
        Check.same("for good", Check.look(x, 2, 7), 2);
        Check.same("it never went", Check.look(x, 2, 4), 0);
    }
}
