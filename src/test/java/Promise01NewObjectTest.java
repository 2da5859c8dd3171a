/** Promise 1: a new object has a TEXT without LINES and an empty TAPE. */
public final class Promise01NewObjectTest {
    public static void main(String[] args) {
        ordinary();
        anEmptyTape();
        noClocksToAsk();
        noneWentByAndNothingByHand();
        runsOfNoClocks();
        nothingHeardYet();
        stepsOfNoClocks();
        objectsShareNothing();
        upToThe512thCall();
        Check.end();
    }

    private static void ordinary() {
        BeamClocks x = new BeamClocks();
        for (int what = 0; what <= 9; what++) {
            Check.same("count(" + what + ") of a new object", x.count(what), 0);
        }
        Check.same("text(1) of an empty tape", x.text(1), -2);
        Check.same("text(0) of an empty tape", x.text(0), 0);
        Check.same("look at none", Check.look(x, 0, 0), 1000000);
        Check.same("fits of nothing", x.fits(), 1);
        Check.same("back without an image", x.back(), -1);
    }

    private static void anEmptyTape() {
        Check.of("promise 1: an empty TAPE");
        BeamClocks x = new BeamClocks();
        Check.same("text(1)", x.text(1), -2);
        Check.same("text(-1)", x.text(-1), -2);
        Check.same("the first feed", x.feed(0x20202020, 0x20202020, 0x20202020, 0x20202020, 0x20202020), 20);
        Check.same("text(21)", x.text(21), -2);
        Check.same("text(20)", x.text(20), 0);
        Twins.unchanged("text(1) of a new object", y -> { }, y -> y.text(1), -2);
    }

    private static void noClocksToAsk() {
        Check.of("promise 1: a TEXT without LINES: no CLOCK, BEAM or MAY");
        BeamClocks x = new BeamClocks();
        for (int what = 0; what <= 2; what++) {
            Check.same("named(" + what + ", a)", x.named(what, Check.letters("a")), -1);
            Check.same("named(" + what + ", 0)", x.named(what, 0), -1);
        }
        Check.same("look(0, 0)", Check.look(x, 0, 0), 1000000);
        Check.same("look(0, 8)", Check.look(x, 0, 8), 1000000);
        Check.same("reach", x.reach(0, 1), -1);
        Check.same("pull", x.pull(0), Integer.MIN_VALUE);
        Check.same("was", x.was(0, 0), -1);
        Check.same("stroke", x.stroke(0, 0), -1);
        Check.same("apart", x.apart(0, 1), -1);
        Check.same("since", x.since(0, 1, 0, false), -1);
        Check.same("group", x.group(0, 0), -1);
        Check.no("hang", x.hang(0, 0, 0));
        Check.no("stop", x.stop(0));
        Check.same("groups(0)", x.groups(0), 0);
        Check.same("groups(500)", x.groups(500), 0);
    }

    private static void noneWentByAndNothingByHand() {
        Check.of("promise 1: STEP 0 is next, nothing is there yet");
        BeamClocks x = new BeamClocks();
        Check.same("fault(0)", x.fault(0), 0);
        Check.same("fault(1)", x.fault(1), -1);
        Check.same("falls", x.falls(), 0);
        Check.same("fall(0)", x.fall(0), -2);
        Check.same("undo", x.undo(), -1);
        Check.same("back", x.back(), -1);
        Check.same("keep", x.keep(), 0);
        Check.same("back behind keep", x.back(), 0);
        Check.same("steps(0)", x.steps(0), 0);
    }

    private static void runsOfNoClocks() {
        Check.of("promise 1: RUNS without CLOCKS");
        BeamClocks x = new BeamClocks();
        Check.same("run", x.run(0, 0, 0), -1);
        Check.same("own", x.own(0, 0), -1);
        Check.same("least of none", x.least(0, 60, 0, 0), 0);
        for (int what = 1; what <= 6; what++) {
            Check.same("least of none, what " + what, x.least(0, 60, 0, what), -1);
        }
        Check.same("least of clock 0", x.least(1, 60, 0, 0), -1);
        Check.same("mend", x.mend(0, 0, 0), Integer.MIN_VALUE);
        Check.same("order", x.order(1, 0, 0, 0), -1);
        Check.same("due", x.due(0, 0), -1);
        Check.same("gain", x.gain(0, 0, 0), Integer.MIN_VALUE);
        for (int what = 0; what <= 5; what++) {
            Check.same("tried " + what, x.tried(what, 0, 0, 0), -1);
        }
        Check.same("chance: all of none run", x.chance(0, 0, 0), 10);
    }

    private static void nothingHeardYet() {
        Check.of("promise 1: nothing HEARD");
        BeamClocks x = new BeamClocks();
        Check.same("strike(0)", x.strike(0), -1);
        Check.no("known(1)", x.known(1));
        Check.yes("known(0)", x.known(0));
        Check.yes("known(-1)", x.known(-1));
        Check.same("fits: as the text has them", x.fits(), 1);
        Check.same("heard of clock 0", x.heard(0, 0, false), -1);
        Check.same("heard of any", x.heard(0, -1, true), 0);
        Check.same("none can strike", x.fits(), 0);
    }

    private static void stepsOfNoClocks() {
        Check.of("promise 1: STEPS go by without CLOCKS too");
        BeamClocks x = new BeamClocks();
        for (int i = 1; i <= 4; i++) {
            Check.same("steps(1000)", x.steps(1000), 1000 * i);
        }
        Check.same("beyond 4000", x.steps(1), -1);
        Check.same("falls", x.falls(), 0);
        Check.same("fall(0)", x.fall(0), -2);
        Check.same("all counts", x.count(9), 0);
    }

    private static void objectsShareNothing() {
        Check.of("promise 1: a new object is new, whatever another one has");
        Twins.rich(new BeamClocks());
        Twins.alike("behind another one", new BeamClocks(), new BeamClocks());
        Check.same("clocks", new BeamClocks().count(1), 0);
        Check.same("the tape", new BeamClocks().text(1), -2);
    }

    private static void upToThe512thCall() {
        Check.of("What it is: an object is used for at most 512 calls after it has been made");
        BeamClocks x = new BeamClocks();
        // "beam b 0 0;clock x b", " 0 1 10;": three calls
        x.feed(0x6265616d, 0x20622030, 0x20303b63, 0x6c6f636b, 0x20782062);
        x.feed(0x20302031, 0x2031303b, 0x20202020, 0x20202020, 0x20202020);
        Check.same("text", x.text(28), 2);
        for (int call = 4; call <= 511; call++) {
            Check.same("call " + call, x.steps(1), call - 3);
        }
        Check.same("call 512", x.look(0, 4), 508 * 10 % 1000);
    }
}
