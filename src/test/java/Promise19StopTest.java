/** Promise 19: stop. */
public final class Promise19StopTest {
    private static final String TWO = "beam b 30 2;law lose (place = 9) * 50;clock x b 0 1 10 drive 9;clock y b 3 1 10 start 5;"
            + "clock z b 9 1 10;";

    public static void main(String[] args) {
        ordinary();
        noSuchOne();
        stoppedAlready();
        notStartedForGoodToo();
        undone();
        runsHaveNothingOfIt();
        Check.end();
    }

    private static void ordinary() {
        BeamClocks x = Check.told("beam b 0 0;clock x b 0 1 10 drive 9;clock y b 3 1 10 start 5;");
        x.steps(1);
        Check.yes("it runs", x.stop(0));
        Check.same("swing", Check.look(x, 0, 5), 0);
        Check.same("state", Check.look(x, 0, 7), 2);
        Check.no("stopped already", x.stop(0));
        Check.yes("not started", x.stop(1));
        Check.no("no such", x.stop(2));
        Check.no("no such", x.stop(-1));
        Check.same("two by hand", x.count(7), 2);
        x.steps(9);
        Check.same("for good", Check.look(x, 1, 7), 2);
        Check.same("it goes no more", Check.look(x, 0, 4), 10);
        Check.same("no swing comes back", Check.look(x, 0, 5), 0);
        Check.same("a run has nothing of it", x.run(0, 10, 1), 100);
        BeamClocks y = Check.told("beam b 0 0;law lose 500;clock x b 0 1 10;");
        y.steps(1);
        Check.no("stopped by itself already", y.stop(0));
    }

    private static void stopped(BeamClocks x) {
        Check.tell(x, TWO);
        x.steps(12);
        x.keep();
        x.stop(0);
    }

    private static void noSuchOne() {
        Check.of("promise 19: false: no such one");
        Twins.unchanged("stop(3)", Promise19StopTest::stopped, x -> x.stop(3) ? 1 : 0, 0);
        Twins.unchanged("stop(-1)", Promise19StopTest::stopped, x -> x.stop(-1) ? 1 : 0, 0);
        for (int far : Twins.FAR) {
            Twins.unchanged("stop(" + far + ")", Promise19StopTest::stopped, x -> x.stop(far) ? 1 : 0, 0);
        }
        Check.no("no clocks", new BeamClocks().stop(0));
        Check.yes("the last", Check.told(TWO).stop(2));
    }

    private static void stoppedAlready() {
        Check.of("promise 19: false: STOPPED already");
        Twins.unchanged("by hand", Promise19StopTest::stopped, x -> x.stop(0) ? 1 : 0, 0);
        Twins.unchanged("by its swing", Promise19StopTest::stopped, x -> x.stop(2) ? 1 : 0, 0);
        BeamClocks x = Twins.made(Promise19StopTest::stopped);
        Check.same("by its swing: 2", Check.look(x, 2, 7), 2);
        x.steps(1);
        Check.no("a step later", x.stop(0));
        x.back();
        Check.yes("in the image it runs", x.stop(0));
        Check.no("once", x.stop(0));
    }

    private static void notStartedForGoodToo() {
        Check.of("promise 19: SWING 0; not started: for good, too");
        BeamClocks x = Check.told(TWO);
        Check.yes("not started", x.stop(1));
        Check.same("its swing", Check.look(x, 1, 5), 0);
        Check.same("stopped", Check.look(x, 1, 7), 2);
        x.steps(5);
        Check.same("its start is next", Check.look(x, 1, 7), 2);
        x.steps(1);
        Check.same("its start went by", Check.look(x, 1, 7), 2);
        Check.same("it didn't go", Check.look(x, 1, 4), 0);
        Check.no("stopped already", x.stop(1));
        Check.same("none but x and z run", x.count(8), 2);
        BeamClocks y = Check.told("beam b 0 0;clock x b 0 1 10;");
        Check.yes("with step 0 next", y.stop(0));
        y.steps(3);
        Check.same("never started", Check.look(y, 0, 7), 2);
        Check.same("nor gone", y.was(0, 2), 0);
    }

    private static void undone() {
        Check.of("==== 4: a CLOCK is STOPPED by hand; that can be undone");
        BeamClocks x = Check.told(TWO);
        x.stop(1);
        x.undo();
        Check.same("not started", Check.look(x, 1, 7), 0);
        Check.same("its swing", Check.look(x, 1, 5), 500);
        x.steps(6);
        Check.same("started", Check.look(x, 1, 7), 1);
        x.stop(0);
        x.undo();
        Check.same("it runs", Check.look(x, 0, 7), 1);
        Check.same("its swing", Check.look(x, 0, 5), 500 + 6 * 9);
        Check.yes("it can be stopped again", x.stop(0));
    }

    private static void runsHaveNothingOfIt() {
        Check.of("==== 3: a RUN: nothing else done by hand");
        BeamClocks x = Check.told("beam b 0 0;clock x b 0 1 10;clock y b 3 1 10 start 5;");
        x.stop(0);
        x.stop(1);
        Check.same("x runs", x.run(0, 20, 3), 1);
        Check.same("y runs", x.run(1, 20, 1), 150);
        Check.same("own", x.own(0, 100), 1);
        Check.same("due", x.due(0, 0), 99);
        Check.same("order", x.order(9, 0, 0, 0), 0);
    }
}
