/** Promise 25: order. */
public final class Promise25OrderTest {
    public static void main(String[] args) {
        ordinary();
        theLastOfAllOrders();
        theFirstOfSeveral();
        theEarliestStep();
        brokenInBetween();
        gapsOf0AndOf99();
        byNoneTheyAre();
        noClocks();
        noSuchOnes();
        noneGoesFirst();
        oneClock();
        startsOtherwiseToldDontCount();
        onlyAsked();
        Check.end();
    }

    private static void ordinary() {
        BeamClocks x = Check.told("beam b 0 0;clock x b 0 1 10 start 700;clock y b 1 1 10 phase 50;");
        // y first: 50 more, and 10 times 5 more; x first: x is as far as y when y starts
        Check.same("the step", x.order(50, 5, 0, 0), 5);
        Check.same("the first", x.order(50, 5, 0, 1), 0);
        Check.same("the second", x.order(50, 5, 0, 2), 1);
        Check.same("y behind by 10 gaps of 4", x.order(50, 4, 10, 1), 0);
        Check.same("by none", x.order(50, 4, 9, 0), -2);
        Check.same("by none: its clocks", x.order(50, 4, 9, 1), -2);
        Check.same("both by 90: the first order", x.order(50, 4, 90, 1), 0);
        Check.same("all orders are one", x.order(50, 0, 50, 0), 0);
        Check.same("the last start is too late", x.order(5, 5, 500, 0), -2);
        Check.same("in time", x.order(6, 5, 500, 0), 5);
        Check.same("n 0", x.order(0, 0, 500, 0), -1);
        Check.same("n 301", x.order(301, 0, 500, 0), -1);
        Check.same("n 300", x.order(300, 0, 500, 0), 0);
        Check.same("g 100", x.order(300, 100, 500, 0), -1);
        Check.same("g -1", x.order(300, -1, 500, 0), -1);
        Check.same("w 501", x.order(300, 1, 501, 0), -1);
        Check.same("w -1", x.order(300, 1, -1, 0), -1);
        Check.same("what 3", x.order(50, 5, 0, 3), -1);
        Check.same("what -1", x.order(50, 5, 0, -1), -1);
        BeamClocks y = Check.told("beam b 0 0;clock y b 1 1 10 phase 50;clock x b 0 1 10;");
        Check.same("the other one first", y.order(50, 5, 0, 1), 1);
        Check.same("then this one", y.order(50, 5, 0, 2), 0);
        Check.same("no clocks", new BeamClocks().order(5, 0, 0, 0), -1);
        BeamClocks u = Check.told("beam b 0 0;law go place;clock x b 1 1 10;clock y b 2 1 10;");
        Check.same("drifting apart", u.order(9, 0, 5, 0), -2);
        u.hang(0, 0, 3);
        Check.same("the same asked of other hangings", u.order(9, 0, 9, 0), 0);
        u.hang(0, 0, 1);
        u.hang(1, 0, 4);
        Check.same("and of others again", u.order(9, 0, 9, 0), -2);
        u.undo();
        Check.same("and undone", u.order(9, 0, 9, 0), 0);
        Check.same("by another w", u.order(9, 0, 8, 0), -2);
        Check.same("by another n", u.order(8, 0, 8, 0), 0);
        Check.same("by another g", u.order(8, 1, 8, 0), 1);
        Check.tell(u, "beam b 0 0;clock x b 1 1 10;clock y b 2 1 10 phase 500;");
        Check.same("and of another text", u.order(8, 1, 8, 0), -2);
        BeamClocks z = Check.told("beam b 0 0;law lose 100;clock x b 0 1 10;");
        Check.same("it runs up to the end of 4", z.order(4, 0, 0, 0), 0);
        Check.same("it is stopped at the end of 5", z.order(5, 0, 0, 0), -2);
        // going at 20 and 10 they meet at the end of step 4 only, and part again
        BeamClocks v = Check.told("beam b 0 0;clock x b 0 1 20;clock y b 1 1 10 phase 50;");
        Check.same("together just at the end", v.order(5, 0, 0, 0), 4);
        Check.same("not up to the end", v.order(6, 0, 0, 0), -2);
        Check.same("10 apart twice", v.order(6, 0, 10, 0), 3);
    }

    private static void asked(BeamClocks x, int n, int g, int w, int... due) {
        for (int what = 0; what < due.length; what++) {
            Check.same("order(" + n + ", " + g + ", " + w + ", " + what + ")", x.order(n, g, w, what), due[what]);
        }
        Check.same("one what more", x.order(n, g, w, x.count(1) + 1), -1);
    }

    /** Six clocks at 10 a step; started one behind another, they are together only in the order of these numbers. */
    private static BeamClocks together(int... order) {
        StringBuilder text = new StringBuilder("beam b 0 0;");
        for (int clock = 0; clock < 6; clock++) {
            int at = 0;
            while (order[at] != clock) {
                at++;
            }
            text.append("clock ").append((char) ('p' + clock)).append(" b ").append(clock).append(" 1 10 phase ")
                    .append(at * 10).append(';');
        }
        return Check.told(text.toString());
    }

    private static void theLastOfAllOrders() {
        Check.of("promise 25: what 0: the STEP, 1 and on: CLOCK what less 1 of it");
        asked(together(0, 1, 2, 3, 4, 5), 20, 1, 0, 5, 0, 1, 2, 3, 4, 5);
        asked(together(5, 4, 3, 2, 1, 0), 20, 1, 0, 5, 5, 4, 3, 2, 1, 0);
        asked(together(5, 4, 3, 2, 0, 1), 20, 1, 0, 5, 5, 4, 3, 2, 0, 1);
        asked(together(2, 5, 0, 4, 1, 3), 20, 1, 0, 5, 2, 5, 0, 4, 1, 3);
        asked(together(1, 0, 5, 4, 3, 2), 20, 1, 0, 5, 1, 0, 5, 4, 3, 2);
    }

    private static void theFirstOfSeveral() {
        Check.of("==== 3: ORDER: of several the first by CLOCKS");
        BeamClocks all = Check.told("beam b 0 0;clock p b 0 1 10;clock q b 1 1 10;clock r b 2 1 10;");
        asked(all, 20, 1, 500, 2, 0, 1, 2);
        // p and q are alike, r must be the first
        BeamClocks two = Check.told("beam b 0 0;clock p b 0 1 10 phase 10;clock q b 1 1 10 phase 10;clock r b 2 1 10;");
        asked(two, 20, 1, 10, 2, 2, 0, 1);
        asked(two, 20, 1, 9, -2, -2, -2, -2);
    }

    private static void theEarliestStep() {
        Check.of("==== 3: ORDER: from the earliest STEP's end on up to the end");
        // q gains 10 a step on p; with p the first it is 30 and more ahead, with q the first farther
        BeamClocks x = Check.told("beam b 0 0;clock p b 0 1 20;clock q b 1 1 10 phase 50;");
        // p first by 2: 40 at 2's end 60 and q 60; then p is ahead by 10 more each step
        asked(x, 3, 2, 0, 2, 0, 1);
        asked(x, 4, 2, 10, 2, 0, 1);
        asked(x, 4, 2, 0, -2, -2, -2);
        // q first: q at 80 with p at 20, p catches up at the end of 8
        asked(x, 9, 2, 0, 8, 1, 0);
        asked(x, 9, 2, 9, 8, 1, 0);
        asked(x, 9, 2, 10, 7, 1, 0);
        asked(x, 10, 2, 9, -2, -2, -2);
        asked(x, 10, 2, 10, 7, 1, 0);
    }

    private static void brokenInBetween() {
        Check.of("==== 3: ORDER: from the earliest STEP's end on up to the end; what was broken doesn't count");
        // 10 apart and less at the ends of 3, 4, 5, and again of 103, 104, 105
        BeamClocks x = Check.told("beam b 0 0;clock p b 0 1 20;clock q b 1 1 10 phase 50;");
        asked(x, 4, 0, 10, 3, 0, 1);
        asked(x, 6, 0, 10, 3, 0, 1);
        asked(x, 7, 0, 10, -2, -2, -2);
        asked(x, 103, 0, 10, -2, -2, -2);
        asked(x, 104, 0, 10, 103, 0, 1);
        asked(x, 106, 0, 10, 103, 0, 1);
        asked(x, 107, 0, 10, -2, -2, -2);
        // with p first by 2 it is so a step or two sooner, with q first later
        asked(x, 104, 2, 10, 101, 0, 1);
    }

    private static void gapsOf0AndOf99() {
        Check.of("==== 3: ORDER: g STEPS (0 .. 99) one behind another, the first at STEP 0");
        BeamClocks x = Check.told("beam b 0 0;clock p b 0 1 10;clock q b 1 1 10;clock r b 2 1 10;");
        asked(x, 1, 0, 0, 0, 0, 1, 2);
        asked(x, 300, 0, 0, 0, 0, 1, 2);
        asked(x, 300, 99, 500, 198, 0, 1, 2);
        asked(x, 199, 99, 500, 198, 0, 1, 2);
        asked(x, 198, 99, 500, -2, -2, -2, -2);
        // 99 steps of 10 are 10 short of a round: 10 and 20 behind
        asked(x, 300, 99, 20, 198, 0, 1, 2);
        asked(x, 300, 99, 19, -2, -2, -2, -2);
        Check.same("g 100", x.order(300, 100, 500, 0), -1);
        Check.same("g -1", x.order(300, -1, 500, 0), -1);
    }

    private static void byNoneTheyAre() {
        Check.of("promise 25: -2: by none they are; all RUN up to the end");
        BeamClocks x = Check.told("beam b 0 0;clock p b 0 1 10;clock q b 1 1 10 phase 500;");
        asked(x, 50, 0, 499, -2, -2, -2);
        asked(x, 50, 0, 500, 0, 0, 1);
        BeamClocks stops = Check.told("beam b 0 0;law lose 100;clock p b 0 1 10;clock q b 1 1 10;");
        asked(stops, 4, 0, 0, 0, 0, 1);
        asked(stops, 5, 0, 0, -2, -2, -2);
        asked(stops, 4, 3, 500, 3, 0, 1);
        asked(stops, 4, 4, 500, -2, -2, -2);
    }

    private static void noClocks() {
        Check.of("promise 25: NONE: no CLOCKS");
        for (int what = -1; what <= 7; what++) {
            Check.same("what " + what, new BeamClocks().order(5, 0, 0, what), -1);
            Check.same("what " + what, Check.told("beam b 0 0;").order(5, 0, 0, what), -1);
        }
    }

    private static void noSuchOnes() {
        Check.of("promise 25: NONE: no such ones (n 1 .. 300)");
        Twins.unchanged("n 0", x -> x.order(0, 1, 5, 0), -1);
        Twins.unchanged("n 301", x -> x.order(301, 1, 5, 0), -1);
        Twins.unchanged("g 100", x -> x.order(50, 100, 5, 0), -1);
        Twins.unchanged("g -1", x -> x.order(50, -1, 5, 0), -1);
        Twins.unchanged("w 501", x -> x.order(50, 1, 501, 0), -1);
        Twins.unchanged("w -1", x -> x.order(50, 1, -1, 0), -1);
        Twins.unchanged("what 4", x -> x.order(50, 1, 5, 4), -1);
        Twins.unchanged("what -1", x -> x.order(50, 1, 5, -1), -1);
        BeamClocks x = Check.told("beam b 0 0;clock p b 0 1 10;clock q b 1 1 10;");
        Check.same("n 1", x.order(1, 0, 0, 0), 0);
        Check.same("n 300, w 500, what 2", x.order(300, 99, 500, 2), 1);
        for (int far : Twins.FAR) {
            Check.same("n " + far, x.order(far, 1, 5, 0), -1);
            Check.same("g " + far, x.order(50, far, 5, 0), -1);
            Check.same("w " + far, x.order(50, 1, far, 0), -1);
            Check.same("what " + far, x.order(50, 1, 500, far), -1);
        }
    }

    private static void noneGoesFirst() {
        Check.of("==== 4: of several answers that hold NONE goes first");
        BeamClocks x = Check.told("beam b 0 0;clock p b 0 1 10;clock q b 1 1 10 phase 500;");
        Check.same("by none", x.order(50, 0, 0, 0), -2);
        Check.same("by none, what 2", x.order(50, 0, 0, 2), -2);
        Check.same("by none, what 3", x.order(50, 0, 0, 3), -1);
        Check.same("by none, what -1", x.order(50, 0, 0, -1), -1);
    }

    private static void oneClock() {
        Check.of("==== 3: ORDER of one CLOCK: it RUNS");
        BeamClocks x = Check.told("beam b 0 0;clock p b 0 1 10 start 500;");
        asked(x, 1, 99, 0, 0, 0);
        asked(x, 300, 0, 0, 0, 0);
        BeamClocks stops = Check.told("beam b 0 0;law lose 500;clock p b 0 1 10;");
        asked(stops, 1, 0, 500, -2, -2);
    }

    private static void startsOtherwiseToldDontCount() {
        Check.of("==== 3: ORDER: the first at STEP 0, whatever start was told");
        BeamClocks x = Check.told("beam b 0 0;clock p b 0 1 10 start 999;clock q b 1 1 10 start 7;");
        asked(x, 5, 0, 0, 0, 0, 1);
        asked(x, 5, 4, 40, 4, 0, 1);
        asked(x, 5, 4, 39, -2, -2, -2);
    }

    private static void onlyAsked() {
        Check.of("promise 25: it is only asked, none is started");
        Twins.unchanged("order", x -> x.order(60, 3, 400, 0), Twins.made(Twins::rich).order(60, 3, 400, 0));
        BeamClocks x = Check.told("beam b 0 0;law go place;clock p b 10 1 1;clock q b 20 1 1;");
        Check.same("10 apart at the end of 0, 20 of 1", x.order(2, 0, 19, 0), -2);
        x.steps(5);
        x.stop(0);
        Check.same("not changed by steps or stops", x.order(2, 0, 19, 0), -2);
        x.keep();
        x.hang(0, 0, 11);
        Check.same("hung as now", x.order(2, 0, 19, 0), 0);
        x.undo();
        Check.same("undone", x.order(2, 0, 19, 0), -2);
        x.hang(0, 0, 11);
        Check.same("hung again", x.order(2, 0, 19, 0), 0);
        x.back();
        Check.same("as in the image", x.order(2, 0, 19, 0), -2);
    }
}
