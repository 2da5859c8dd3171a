/** Promise 16: falls. */
public final class Promise16FallsTest {
    private static final String FREE = "beam b 0 0;clock x b 0 1 10;clock y b 1 2 20;";

    public static void main(String[] args) {
        twoOrMore();
        noneYet();
        upTo4000();
        behindAnImageAndAText();
        Check.end();
    }

    private static void twoOrMore() {
        Check.of("==== 2: FALLS: STEPS in which two or more strike");
        String[] clocks = {"clock p b 0 1 10 phase 990;", "clock q b 1 1 10 phase 990;", "clock r b 2 1 10 phase 990;",
            "clock s b 3 1 10 phase 990;", "clock t b 4 1 10 phase 990;", "clock u b 5 1 10 phase 990;"};
        StringBuilder text = new StringBuilder("beam b 0 0;");
        for (int most = 1; most <= 6; most++) {
            text.append(clocks[most - 1]);
            BeamClocks x = Check.told(text.toString());
            x.steps(1);
            Check.same(most + " strike in one step", x.falls(), most >= 2 ? 1 : 0);
            x.steps(99);
            Check.same("and in no other", x.falls(), most >= 2 ? 1 : 0);
            x.steps(1);
            Check.same("and then again", x.falls(), most >= 2 ? 2 : 0);
        }
        BeamClocks beside = Check.told("beam b 0 0;clock p b 0 1 10 phase 990;clock q b 1 1 10 phase 980;");
        beside.steps(1000);
        Check.same("one step beside one another", beside.falls(), 0);
        // the last two of six, so that no bit of a stroke is lost
        BeamClocks last = Check.told("beam b 0 0;clock p b 0 1 1;clock q b 1 1 1;clock r b 2 1 1;clock s b 3 1 1;"
                + clocks[4] + clocks[5]);
        last.steps(1);
        Check.same("the fifth and sixth", last.falls(), 1);
    }

    private static void noneYet() {
        Check.of("promise 16: how many FALLS there were: none");
        Check.same("no clocks", new BeamClocks().falls(), 0);
        BeamClocks x = Check.told(FREE);
        Check.same("no steps", x.falls(), 0);
        x.steps(99);
        Check.same("one step ahead of the first", x.falls(), 0);
        x.steps(1);
        Check.same("the first", x.falls(), 1);
        Twins.unchanged("falls", y -> y.falls(), Twins.made(Twins::rich).falls());
    }

    private static void upTo4000() {
        Check.of("promise 16: FALLS of STEPS 0 .. 3999");
        BeamClocks x = Check.told(FREE);
        for (int i = 1; i <= 4; i++) {
            x.steps(1000);
            Check.same("by " + 1000 * i, x.falls(), 10 * i);
        }
        BeamClocks all = Check.told("beam b 0 0;law go 99;clock x b 0 1 10 phase 990;clock y b 1 2 20 phase 990;");
        for (int i = 1; i <= 4; i++) {
            all.steps(1000);
        }
        Check.same("every stroke", all.falls(), (990 + 99 * 4000) / 1000);
    }

    private static void behindAnImageAndAText() {
        Check.of("promise 16: those that there were");
        BeamClocks x = Check.told(FREE);
        x.steps(150);
        x.keep();
        x.steps(150);
        Check.same("three", x.falls(), 3);
        x.back();
        Check.same("one in the image", x.falls(), 1);
        Check.tell(x, "#");
        Check.same("a faulty text", x.falls(), 1);
        Check.tell(x, FREE);
        Check.same("none behind a text", x.falls(), 0);
    }
}
