/** Promise 8: pull. */
public final class Promise08PullTest {
    public static void main(String[] args) {
        ordinary();
        everyLean();
        zeroOfThoseThatDontRun();
        theGreatestPull();
        noSuchClock();
        Check.end();
    }

    private static void lean(int phase, int want) {
        BeamClocks x = Check.told("beam b 1 0;law go 0;clock x b 0 1 1;clock y b 1 1 1 phase " + phase + ";");
        Check.same("pull ahead of the start", x.pull(0), 0);
        x.steps(1);
        Check.same("lean of " + phase, x.pull(0), want);
        Check.same("lean of " + phase + " the other way", x.pull(1), -want);
    }

    private static void ordinary() {
        int[][] leans = {{0, 0}, {1, 1}, {250, 250}, {251, 249}, {499, 1}, {500, 0}, {501, -1}, {749, -249},
            {750, -250}, {999, -1}};
        for (int[] l : leans) {
            lean(l[0], l[1]);
        }
        BeamClocks x = Check.told("beam b 10 1;law go 0;clock x b 0 2 1;clock y b 3 5 1 phase 100;"
                + "clock z b 4 9 1 phase 950;");
        x.steps(1);
        // y: 5 * 7 * 100, z: 9 * 6 * -50
        Check.same("pull of x", x.pull(0), 3500 - 2700);
        // x: 2 * 7 * -100, z: 9 * 9 * (850 - 1000)
        Check.same("pull of y", x.pull(1), -1400 - 12150);
        x.stop(2);
        Check.same("pull of x, z is stopped", x.pull(0), 3500);
        Check.same("pull of one that is stopped", x.pull(2), 0);
        Check.same("no such", x.pull(3), Integer.MIN_VALUE);
        Check.same("no such", x.pull(-1), Integer.MIN_VALUE);
        x.hang(0, 0, 1);
        Check.same("pull by hangings now", x.pull(0), 5 * 8 * 100);
    }

    private static void everyLean() {
        Check.of("==== 2: LEAN of d, -500 .. 499: d within -250 .. 250; 500 less d above; -500 less d below");
        for (int own : new int[] {0, 1, 250, 499, 500, 501, 750, 999}) {
            for (int d : new int[] {-500, -499, -251, -250, -249, -1, 0, 1, 249, 250, 251, 498, 499}) {
                int other = Math.floorMod(own + d, 1000);
                BeamClocks x = Check.told("beam b 1 0;law go 0;clock x b 0 1 1 phase " + own + ";clock y b 1 1 1 phase "
                        + other + ";");
                x.steps(1);
                // "go 0" and a pull of at most 250 by 1000 leave the phases as they are
                int lean = d > 250 ? 500 - d : d < -250 ? -500 - d : d;
                Check.same("lean from " + own + " to " + other, x.pull(0), lean);
                Check.same("lean from " + other + " to " + own, x.pull(1), -lean);
            }
        }
    }

    private static void zeroOfThoseThatDontRun() {
        Check.of("promise 8: 0, if it doesn't RUN; those not started don't either");
        BeamClocks x = Check.told("beam b 10 0;law go 0;clock x b 0 1 1;clock y b 1 2 1 phase 100;"
                + "clock z b 2 3 1 phase 10 start 2;");
        for (int clock = 0; clock < 3; clock++) {
            Check.same("no step yet", x.pull(clock), 0);
        }
        x.steps(2);
        int one = Check.look(x, 0, 4);
        int other = Check.look(x, 1, 4);
        Check.same("the third doesn't pull", x.pull(0), 20 * (other - one));
        Check.same("nor is it pulled", x.pull(2), 0);
        x.steps(1);
        Check.yes("it is now", x.pull(2) != 0);
        x.stop(0);
        x.stop(1);
        for (int clock = 0; clock < 3; clock++) {
            Check.same("none that runs is left to pull", x.pull(clock), 0);
        }
        x.undo();
        int third = Check.look(x, 2, 4);
        int second = Check.look(x, 1, 4);
        Check.same("one undone", x.pull(2), 20 * (second - third));
        Check.same("the other is stopped still", x.pull(0), 0);
    }

    private static void theGreatestPull() {
        Check.of("==== 2: the sum over all others that RUN of their WEIGHT times REACH times LEAN");
        StringBuilder text = new StringBuilder("beam b 99 0;law go 0;clock x b 0 9 1 phase 500;");
        for (int i = 1; i < 6; i++) {
            text.append("clock ").append((char) ('p' + i)).append(" b ").append(i).append(" 9 1 phase 750;");
        }
        BeamClocks x = Check.told(text.toString());
        x.steps(1);
        // in step 0 x goes by 5 * 9 * 99 * 250 by 9000, the others by 0
        int own = 500 + 5 * 9 * 99 * 250 / 9000;
        Check.same("where it is", Check.look(x, 0, 4), own);
        Check.same("pull of x", x.pull(0), 5 * 9 * 99 * (750 - own));
        Check.same("pull of another", x.pull(5), 9 * 99 * (own - 750));
    }

    private static void noSuchClock() {
        Check.of("promise 8: Integer.MIN_VALUE: no such CLOCK");
        BeamClocks x = Twins.made(Twins::rich);
        Check.yes("the last", x.pull(2) != Integer.MIN_VALUE);
        Check.same("one more", x.pull(3), Integer.MIN_VALUE);
        Check.same("-1", x.pull(-1), Integer.MIN_VALUE);
        for (int far : Twins.FAR) {
            Check.same("" + far, x.pull(far), Integer.MIN_VALUE);
        }
        Twins.unchanged("pull(3)", y -> y.pull(3), Integer.MIN_VALUE);
    }
}
