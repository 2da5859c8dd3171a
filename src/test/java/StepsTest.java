/** Promises 6 to 20: how clocks go, what can be asked of it, and what is done by hand. */
public final class StepsTest {
    /** Without pulls: x strikes at 99, 199, ..; y at 49, 99, 149, 199, .. */
    private static final String FREE = "beam b 0 0;clock x b 0 1 10;clock y b 1 2 20;";

    public static void main(String[] args) {
        promise6();
        promise7();
        promise8();
        promise9();
        laws();
        bounds();
        promise10();
        promise11();
        promise12();
        promise13();
        promises14And15();
        promises16And17();
        promise18();
        promise19();
        promise20();
        Check.end();
    }

    private static void promise6() {
        BeamClocks x = Check.told("beam a 0 0;beam b 0 0;clock x b 5 3 40 phase 7 swing 9 start 1;clock y a 2 1 50;");
        int[] want = {1, 5, 3, 40, 7, 9, 0, 0};
        for (int what = 0; what <= 7; what++) {
            Check.same("look(0, " + what + ")", Check.look(x, 0, what), want[what]);
        }
        Check.same("swing of none told", Check.look(x, 1, 5), 500);
        Check.same("what 8", Check.look(x, 0, 8), 2000000);
        Check.same("what -1", Check.look(x, 0, -1), 2000000);
        Check.same("clock 2", Check.look(x, 2, 0), 1000000);
        Check.same("clock -1", Check.look(x, -1, 0), 1000000);
        Check.same("neither: the clock goes first", Check.look(x, 2, 8), 1000000);
        x.steps(1);
        Check.same("not started in step 0", Check.look(x, 0, 7), 0);
        Check.same("started in step 0", Check.look(x, 1, 7), 1);
        x.steps(1);
        Check.same("started in step 1, and went", Check.look(x, 0, 4), 47);
        Check.same("it runs", Check.look(x, 0, 7), 1);
        x.stop(0);
        Check.same("stopped", Check.look(x, 0, 7), 2);
        x.steps(18);
        Check.same("count of y by 20 steps", Check.look(x, 1, 6), 1);
        Check.same("phase of y by 20 steps", Check.look(x, 1, 4), 0);
    }

    private static void promise7() {
        BeamClocks x = Check.told("beam a 50 7;beam b 9 1;wall 33;clock x a 3 1 1;clock y a 10 1 1;clock z b 3 1 1;");
        Check.same("50 less 7 times 7", x.reach(0, 1), 1);
        Check.same("either way", x.reach(1, 0), 1);
        Check.same("by the wall", x.reach(0, 2), 33);
        x.hang(1, 0, 11);
        Check.same("0 at least", x.reach(0, 1), 0);
        x.hang(1, 0, 2);
        Check.same("hung nearer", x.reach(0, 1), 43);
        x.hang(2, 0, 4);
        Check.same("on one beam now", x.reach(0, 2), 43);
        Check.same("one and the same", x.reach(1, 1), -1);
        Check.same("no such", x.reach(0, 3), -1);
        Check.same("no such", x.reach(-1, 0), -1);
        BeamClocks y = Check.told("beam a 50 7;beam b 9 1;clock x a 3 1 1;clock z b 3 1 1;");
        Check.same("without a wall", y.reach(0, 1), 0);
    }

    private static void lean(int phase, int want) {
        BeamClocks x = Check.told("beam b 1 0;law go 0;clock x b 0 1 1;clock y b 1 1 1 phase " + phase + ";");
        Check.same("pull ahead of the start", x.pull(0), 0);
        x.steps(1);
        Check.same("lean of " + phase, x.pull(0), want);
        Check.same("lean of " + phase + " the other way", x.pull(1), -want);
    }

    private static void promise8() {
        int[][] leans = {{0, 0}, {1, 1}, {250, 250}, {251, 249}, {499, 1}, {500, 0}, {501, -1}, {749, -249},
            {750, -250}, {999, -1}};
        for (int[] l : leans) {
            lean(l[0], l[1]);
        }
        BeamClocks x = Check.told("beam b 10 1;law go 0;clock x b 0 2 1;clock y b 3 5 1 phase 100;"
                + "clock z b 4 9 1 phase 950;");
        x.steps(1);
        // y: 5 * 7 * 100, z: 9 * 6 * -50
        Check.same("pull of x", x.pull(0), 3500 - 2700);
        // x: 2 * 7 * -100, z: 9 * 9 * (850 - 1000)
        Check.same("pull of y", x.pull(1), -1400 - 12150);
        x.stop(2);
        Check.same("pull of x, z is stopped", x.pull(0), 3500);
        Check.same("pull of one that is stopped", x.pull(2), 0);
        Check.same("no such", x.pull(3), Integer.MIN_VALUE);
        Check.same("no such", x.pull(-1), Integer.MIN_VALUE);
        x.hang(0, 0, 1);
        Check.same("pull by hangings now", x.pull(0), 5 * 8 * 100);
    }

    private static void promise9() {
        BeamClocks x = Check.told(FREE);
        Check.same("steps(0)", x.steps(0), 0);
        Check.same("steps(-1)", x.steps(-1), -1);
        Check.same("steps(1001)", x.steps(1001), -1);
        for (int i = 1; i <= 3; i++) {
            Check.same("steps(1000)", x.steps(1000), 1000 * i);
        }
        Check.same("steps(999)", x.steps(999), 3999);
        Check.same("beyond 4000", x.steps(2), -1);
        Check.same("none went by", x.count(4), 3999);
        Check.same("steps(1)", x.steps(1), 4000);
        Check.same("steps(1) beyond", x.steps(1), -1);
        Check.same("steps(0) still", x.steps(0), 4000);
        Check.same("40 strokes of x", Check.look(x, 0, 6), 40);
        Check.same("80 strokes of y", Check.look(x, 1, 6), 80);
        Check.same("all counts", x.count(9), 120);
        // all pulls first: y is pulled by where x was
        BeamClocks y = Check.told("beam b 10 0;clock x b 0 1 10;clock y b 1 1 10 phase 200;");
        y.steps(1);
        Check.same("x by 10 and 2", Check.look(y, 0, 4), 12);
        Check.same("y by 10 less 2", Check.look(y, 1, 4), 208);
        // the pull is cut by itself: 10 and -1500 by 1000 are 9
        BeamClocks z = Check.told("beam b 15 0;clock x b 0 1 10 phase 100;clock y b 1 1 10;");
        z.steps(1);
        Check.same("cut towards 0", Check.look(z, 0, 4), 109);
    }

    private static void swing(String law, String extras, int want, int state) {
        BeamClocks x = Check.told("beam b 0 0;" + law + "clock x b 0 1 10 " + extras + ";");
        x.steps(1);
        Check.same("swing by " + law + extras, Check.look(x, 0, 5), want);
        Check.same("state by " + law + extras, Check.look(x, 0, 7), state);
        Check.same("phase by " + law + extras, Check.look(x, 0, 4), state == 2 ? 0 : 10);
    }

    private static void laws() {
        swing("", "", 500, 1);
        swing("", "drive 7", 507, 1);
        swing("", "swing 990 drive 99", 999, 1);
        swing("law lose 100;", "", 400, 1);
        swing("law lose 100;", "drive 1", 401, 1);
        swing("law lose 499;", "", 1, 1);
        swing("law lose 500;", "", 0, 2);
        swing("law lose 600;", "", 0, 2);
        swing("law lose 600;", "drive 99", 0, 2);
        swing("law lose 9999;", "swing 999 drive 99", 99, 1);
        swing("law lose 0-50;", "", 500, 1);
        swing("law lose 1/0;", "", 500, 1);
        swing("law lose swing;", "drive 7", 7, 1);
        swing("law lose swing;", "", 0, 2);
        swing("law lose speed + weight + place + step + count;", "", 489, 1);
        BeamClocks x = Check.told("beam b 0 0;law lose 100;law go swing / 10;clock x b 0 1 1 drive 50;");
        x.steps(1);
        Check.same("go's swing is the one behind the loss", Check.look(x, 0, 4), 45);
        x.steps(1);
        Check.same("and the next", Check.look(x, 0, 4), 85);
        x.steps(8);
        Check.same("500 less 10 times 50", Check.look(x, 0, 7), 2);
        x.steps(5);
        Check.same("it goes no more", x.was(0, 14), x.was(0, 8));
        BeamClocks y = Check.told("beam b 0 0;law go step + count * 10;clock x b 0 1 1 phase 999;clock y b 1 1 1 start 2;");
        y.steps(1);
        Check.same("step 0, count 0", Check.look(y, 0, 4), 999);
        y.steps(1);
        Check.same("step 1: a stroke", Check.look(y, 0, 4), 0);
        Check.same("its count", Check.look(y, 0, 6), 1);
        y.steps(1);
        Check.same("step 2, count 1", Check.look(y, 0, 4), 12);
        Check.same("step 2 of the other", Check.look(y, 1, 4), 2);
        // pull: 9 * 99 * 250 by 1000 is 222; the other way -24 of -24750
        BeamClocks z = Check.told("beam b 99 0;law go pull / 10 + 50;clock x b 0 1 1;clock y b 1 9 1 phase 250;");
        z.steps(1);
        Check.same("pull by 1000 in go's E", Check.look(z, 0, 4), 22 + 50 + 222);
        Check.same("pull by 1000 below 0", Check.look(z, 1, 4), 250 - 2 + 50 - 2);
    }

    private static void bounds() {
        StringBuilder text = new StringBuilder("beam b 99 0;clock x b 0 1 10 phase 600;");
        for (int i = 1; i < 6; i++) {
            text.append("clock ").append((char) ('p' + i)).append(" b ").append(i).append(" 9 10 phase 850;");
        }
        BeamClocks x = Check.told(text.toString());
        x.steps(1);
        Check.same("499 at most: a stroke", Check.look(x, 0, 4), 99);
        Check.same("its count", Check.look(x, 0, 6), 1);
        Check.same("cut towards 0: -24750 by 9000", Check.look(x, 1, 4), 858);
        BeamClocks y = Check.told(text.toString().replace("phase 600", "phase 100").replace("850", "850"));
        y.steps(1);
        Check.same("0 at least", Check.look(y, 0, 4), 100);
        BeamClocks z = Check.told("beam b 0 0;clock x b 0 1 99 phase 901;clock y b 1 1 98 phase 901;");
        z.steps(1);
        Check.same("1000 is a stroke", Check.look(z, 0, 6), 1);
        Check.same("999 is none", Check.look(z, 1, 6), 0);
    }

    private static void promise10() {
        BeamClocks x = Check.told(FREE);
        Check.same("none has gone by", x.was(0, 0), -1);
        x.steps(60);
        Check.same("was(0, 0)", x.was(0, 0), 10);
        Check.same("was(0, 59)", x.was(0, 59), 600);
        Check.same("was(1, 49)", x.was(1, 49), 0);
        Check.same("was(0, 60)", x.was(0, 60), -1);
        Check.same("was(0, -1)", x.was(0, -1), -1);
        Check.same("was(2, 0)", x.was(2, 0), -1);
        Check.same("was(-1, 0)", x.was(-1, 0), -1);
        x.steps(1000);
        x.steps(1000);
        x.steps(1000);
        x.steps(940);
        Check.same("was(1, 3998)", x.was(1, 3998), 980);
        Check.same("was(1, 3999)", x.was(1, 3999), 0);
        Check.same("was(1, 4000)", x.was(1, 4000), -1);
    }

    private static void promise11() {
        BeamClocks x = Check.told(FREE);
        Check.same("none yet", x.stroke(0, 0), -2);
        x.steps(200);
        Check.same("stroke(0, 0)", x.stroke(0, 0), 99);
        Check.same("stroke(0, 1)", x.stroke(0, 1), 199);
        Check.same("stroke(0, 2)", x.stroke(0, 2), -2);
        Check.same("stroke(1, 2)", x.stroke(1, 2), 149);
        Check.same("stroke(1, MAX)", x.stroke(1, Integer.MAX_VALUE), -2);
        Check.same("stroke(0, -1)", x.stroke(0, -1), -1);
        Check.same("stroke(2, 9)", x.stroke(2, 9), -1);
        Check.same("stroke(-1, 9)", x.stroke(-1, 9), -1);
    }

    private static void promise12() {
        BeamClocks x = Check.told("beam b 0 0;clock x b 0 1 1 phase 990;clock y b 1 1 1 phase 20;clock z b 2 1 1 phase 490;");
        Check.same("over the end", x.apart(0, 1), 30);
        Check.same("500", x.apart(0, 2), 500);
        Check.same("less one another", x.apart(2, 1), 470);
        Check.same("one and the same", x.apart(1, 1), -1);
        Check.same("no such", x.apart(0, 3), -1);
        Check.same("no such", x.apart(-1, 0), -1);
    }

    private static void promise13() {
        // apart 10, 20, 30, .. up to 500 at the end of step 49, then less again
        BeamClocks x = Check.told(FREE);
        Check.same("no step went by", x.since(0, 1, 500, false), -2);
        x.steps(10);
        Check.same("in step by 100", x.since(0, 1, 100, false), 0);
        Check.same("in step by 99", x.since(0, 1, 99, false), -2);
        Check.same("against by 400", x.since(0, 1, 400, true), 9);
        Check.same("against by 401", x.since(0, 1, 401, true), 9);
        Check.same("against by 410", x.since(0, 1, 410, true), 8);
        Check.same("against by 399", x.since(0, 1, 399, true), -2);
        Check.same("against by 500", x.since(0, 1, 500, true), 0);
        x.steps(85);
        // at the end of step t behind 49: 500 - 10 (t - 49); of step 94: 50
        Check.same("in step by 70 since", x.since(0, 1, 70, false), 92);
        Check.same("in step by 79 since", x.since(1, 0, 79, false), 92);
        Check.same("in step by 500 since", x.since(0, 1, 500, false), 0);
        Check.same("in step by 49", x.since(0, 1, 49, false), -2);
        Check.same("n 501", x.since(0, 1, 501, false), -1);
        Check.same("n -1", x.since(0, 1, -1, true), -1);
        Check.same("one and the same", x.since(1, 1, 5, false), -1);
        Check.same("no such", x.since(0, 2, 5, false), -1);
        Check.same("no such", x.since(-1, 1, 5, false), -1);
        BeamClocks y = Check.told("beam b 0 0;clock x b 0 1 1 start 900;clock y b 1 1 1 start 900;");
        y.steps(2);
        Check.same("those that don't run have phases too", y.since(0, 1, 0, false), 0);
    }

    private static void promises14And15() {
        BeamClocks x = Check.told("beam b 0 0;law go 0;clock p b 0 1 1 phase 980;clock q b 1 1 1 phase 20;"
                + "clock r b 2 1 1 phase 500;clock s b 3 1 1 phase 60;clock t b 4 1 1 phase 5 start 3;");
        Check.same("none runs", x.groups(500), 0);
        x.steps(1);
        Check.same("groups(40)", x.groups(40), 2);
        Check.same("groups(39)", x.groups(39), 4);
        Check.same("groups(500)", x.groups(500), 1);
        Check.same("groups(501)", x.groups(501), -1);
        Check.same("groups(-1)", x.groups(-1), -1);
        Check.same("from one to the next", x.group(0, 40), 1 | 2 | 8);
        Check.same("from the last", x.group(3, 40), 1 | 2 | 8);
        Check.same("alone", x.group(2, 40), 4);
        Check.same("it doesn't run", x.group(4, 40), 0);
        Check.same("no such", x.group(5, 40), -1);
        Check.same("no such", x.group(-1, 40), -1);
        Check.same("no such n", x.group(4, 501), -1);
        x.stop(1);
        Check.same("one that links is stopped", x.group(0, 40), 1);
        Check.same("groups then", x.groups(40), 3);
        x.steps(3);
        Check.same("one that links is started", x.group(3, 55), 1 | 8 | 16);
    }

    private static void promises16And17() {
        BeamClocks x = Check.told(FREE);
        Check.same("none", x.falls(), 0);
        x.steps(99);
        Check.same("none by 98", x.falls(), 0);
        Check.same("fall(0)", x.fall(0), -2);
        x.steps(101);
        Check.same("two", x.falls(), 2);
        Check.same("fall(0)", x.fall(0), 99);
        Check.same("fall(1)", x.fall(1), 199);
        Check.same("fall(2)", x.fall(2), -2);
        Check.same("fall(-1)", x.fall(-1), -1);
        Check.same("fall(MIN)", x.fall(Integer.MIN_VALUE), -1);
        BeamClocks y = Check.told("beam b 0 0;clock x b 0 1 1 phase 999;clock y b 1 1 1 phase 999;");
        y.steps(1);
        Check.same("a fall in step 0", y.falls(), 1);
        Check.same("its step", y.fall(0), 0);
        Check.same("a stroke in step 0", y.stroke(1, 0), 0);
    }

    private static void promise18() {
        BeamClocks x = Check.told("beam a 0 0;beam b 0 0;clock x a 0 1 10;clock y a 3 1 10;");
        Check.no("another is there", x.hang(0, 0, 3));
        Check.no("it hangs there", x.hang(0, 0, 0));
        Check.no("place 31", x.hang(0, 0, 31));
        Check.no("place -1", x.hang(0, 0, -1));
        Check.no("beam 2", x.hang(0, 2, 0));
        Check.no("beam -1", x.hang(0, -1, 0));
        Check.no("clock 2", x.hang(2, 0, 9));
        Check.no("clock -1", x.hang(-1, 0, 9));
        Check.same("nothing was done", x.count(7), 0);
        Check.yes("place 30", x.hang(0, 0, 30));
        Check.yes("the same place of another beam", x.hang(0, 1, 3));
        Check.same("beam", Check.look(x, 0, 0), 1);
        Check.same("place", Check.look(x, 0, 1), 3);
        x.steps(7);
        Check.yes("as it goes", x.hang(1, 0, 0));
        Check.same("its phase stays", Check.look(x, 1, 4), 70);
        BeamClocks y = Check.told("beam b 0 0;law go place;clock x b 3 1 10;");
        y.steps(2);
        y.hang(0, 0, 20);
        y.steps(1);
        Check.same("it goes by its new place", Check.look(y, 0, 4), 26);
    }

    private static void promise19() {
        BeamClocks x = Check.told("beam b 0 0;clock x b 0 1 10 drive 9;clock y b 3 1 10 start 5;");
        x.steps(1);
        Check.yes("it runs", x.stop(0));
        Check.same("swing", Check.look(x, 0, 5), 0);
        Check.same("state", Check.look(x, 0, 7), 2);
        Check.no("stopped already", x.stop(0));
        Check.yes("not started", x.stop(1));
        Check.no("no such", x.stop(2));
        Check.no("no such", x.stop(-1));
        Check.same("two by hand", x.count(7), 2);
        x.steps(9);
        Check.same("for good", Check.look(x, 1, 7), 2);
        Check.same("it goes no more", Check.look(x, 0, 4), 10);
        Check.same("no swing comes back", Check.look(x, 0, 5), 0);
        Check.same("a run has nothing of it", x.run(0, 10, 1), 100);
        BeamClocks y = Check.told("beam b 0 0;law lose 500;clock x b 0 1 10;");
        y.steps(1);
        Check.no("stopped by itself already", y.stop(0));
    }

    private static void promise20() {
        BeamClocks x = Check.told("beam b 0 0;clock x b 0 1 10;clock y b 1 1 10 swing 77 start 1;");
        Check.same("none", x.undo(), -1);
        x.steps(1);
        x.hang(0, 0, 5);
        x.hang(1, 0, 0);
        x.stop(1);
        x.stop(0);
        Check.same("three left", x.undo(), 3);
        Check.same("it runs again", Check.look(x, 0, 7), 1);
        Check.same("two left", x.undo(), 2);
        Check.same("not started again", Check.look(x, 1, 7), 0);
        Check.same("its swing", Check.look(x, 1, 5), 77);
        Check.same("one left", x.undo(), 1);
        Check.same("hung back", Check.look(x, 1, 1), 1);
        Check.same("none left", x.undo(), 0);
        Check.same("hung back", Check.look(x, 0, 1), 0);
        Check.same("no more", x.undo(), -1);
        for (int i = 1; i <= 25; i++) {
            x.hang(0, 0, 1 + i);
        }
        Check.same("20 at most", x.count(7), 20);
        for (int i = 19; i >= 0; i--) {
            Check.same("undo", x.undo(), i);
            Check.same("hung as ahead of that", Check.look(x, 0, 1), 6 + i);
        }
        Check.same("five stay done", Check.look(x, 0, 1), 6);
        Check.same("no more", x.undo(), -1);
        x.hang(0, 0, 9);
        x.steps(0);
        Check.same("no step went by", x.count(7), 1);
        x.steps(-1);
        x.steps(4000);
        Check.same("nor now", x.count(7), 1);
        x.steps(1);
        Check.same("a step went by", x.undo(), -1);
        Check.same("hung there", Check.look(x, 0, 1), 9);
    }
}
