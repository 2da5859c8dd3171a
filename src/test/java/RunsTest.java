/** Promises 21 to 36: runs and what is asked of them, what was heard, tried, by chance, images, counts. */
public final class RunsTest {
    private static final String FREE = "beam b 0 0;clock x b 0 1 10;clock y b 1 2 20;";
    /** x is drawn ahead by y: it strikes in step 16, by itself in step 19. */
    private static final String DRAWN = "beam b 99 0;beam c 0 0;clock x b 0 1 50;clock y b 1 9 50 phase 200;";

    public static void main(String[] args) {
        promise21();
        promise22();
        promise23();
        promise24();
        promise25();
        promise26();
        promise27();
        promise28();
        promise29();
        promise30();
        promise31();
        promise32();
        promise33();
        promises34And35();
        promise36();
        Check.end();
    }

    private static void promise21() {
        BeamClocks x = Check.told("beam b 0 0;law lose 1;clock x b 0 1 10;clock y b 1 2 20 start 5 swing 30;");
        x.steps(50);
        x.stop(0);
        Check.same("count", x.run(0, 100, 0), 1);
        Check.same("count of 99", x.run(0, 99, 0), 0);
        Check.same("phase", x.run(0, 99, 1), 990);
        Check.same("swing", x.run(0, 99, 2), 401);
        Check.same("it runs", x.run(0, 99, 3), 1);
        Check.same("none by 0", x.run(0, 0, 3), 0);
        Check.same("not started", x.run(1, 5, 3), 0);
        Check.same("started", x.run(1, 6, 3), 1);
        Check.same("its phase", x.run(1, 6, 1), 20);
        Check.same("it runs by 34", x.run(1, 34, 3), 1);
        Check.same("stopped by 35", x.run(1, 35, 3), 0);
        Check.same("its phase then", x.run(1, 2000, 1), 580);
        Check.same("its swing then", x.run(1, 2000, 2), 0);
        Check.same("n 2001", x.run(0, 2001, 0), -1);
        Check.same("n -1", x.run(0, -1, 0), -1);
        Check.same("what 4", x.run(0, 1, 4), -1);
        Check.same("what -1", x.run(0, 1, -1), -1);
        Check.same("no such", x.run(2, 1, 0), -1);
        Check.same("no such", x.run(-1, 1, 0), -1);
        Check.same("nothing changed", x.count(4), 50);
        BeamClocks y = Check.told("beam b 0 0;law go place;clock x b 3 1 10;");
        y.hang(0, 0, 20);
        Check.same("hung as now, from 0 on", y.run(0, 3, 1), 60);
    }

    private static void promise22() {
        BeamClocks x = Check.told(DRAWN);
        Check.same("drawn", x.run(0, 17, 0), 1);
        Check.same("own 17", x.own(0, 17), 0);
        Check.same("own 19", x.own(0, 19), 0);
        Check.same("own 20", x.own(0, 20), 1);
        Check.same("own of y by 15", x.own(1, 15), 0);
        Check.same("own of y by 16", x.own(1, 16), 1);
        Check.same("own 2000", x.own(0, 2000), 100);
        Check.same("own 2001", x.own(0, 2001), -1);
        Check.same("own -1", x.own(0, -1), -1);
        Check.same("no such", x.own(2, 1), -1);
        Check.same("no such", x.own(-1, 1), -1);
        BeamClocks y = Check.told("beam b 0 0;law go place;clock x b 1 1 10 start 2;");
        y.hang(0, 0, 20);
        Check.same("from its start on, as it hangs now", y.own(0, 52), 1);
        Check.same("one step less", y.own(0, 51), 0);
    }

    private static void promise23() {
        BeamClocks x = Check.told(DRAWN);
        int[] want = {1, 0, 1, 0, -1, -1, -1};
        for (int what = 0; what <= 6; what++) {
            Check.same("least(1, 17, 0, " + what + ")", x.least(1, 17, 0, what), want[what]);
        }
        Check.same("none told", x.least(0, 17, 0, 0), 0);
        Check.same("k 1", x.least(1, 17, 1, 0), 0);
        Check.same("none moved: the one", x.least(1, 17, 1, 1), -1);
        Check.same("n 0", x.least(3, 0, 0, 0), 0);
        Check.same("bits 4", x.least(4, 17, 0, 0), -1);
        Check.same("bits -1", x.least(-1, 17, 0, 0), -1);
        Check.same("n 61", x.least(1, 61, 0, 0), -1);
        Check.same("n -1", x.least(1, -1, 0, 0), -1);
        Check.same("k 100", x.least(1, 17, 100, 0), -1);
        Check.same("k -1", x.least(1, 17, -1, 0), -1);
        Check.same("what 7", x.least(1, 17, 0, 7), -1);
        Check.same("what -1", x.least(1, 17, 0, -1), -1);
        x.hang(0, 1, 30);
        Check.same("hung out of reach: none", x.least(1, 17, 0, 0), 0);
        x.undo();
        Check.same("undone: one again", x.least(1, 17, 0, 0), 1);
        BeamClocks y = Check.told("beam b 99 0;clock x b 0 1 50;clock y b 1 9 50 phase 200;");
        Check.same("no place is out of reach", y.least(1, 17, 0, 0), -2);
        Check.same("nor for its parts", y.least(1, 17, 0, 1), -2);
        Check.same("nothing is changed by it", Check.look(y, 0, 1), 0);
        Check.same("asked", x.least(1, 17, 0, 0), 1);
        x.hang(0, 1, 30);
        Check.same("the same asked of other hangings", x.least(1, 17, 0, 0), 0);
        x.undo();
        Check.same("and undone", x.least(1, 17, 0, 0), 1);
        Check.same("by another k", x.least(1, 17, 1, 0), 0);
        Check.same("by another n", x.least(1, 16, 1, 0), 0);
        Check.same("of others", x.least(3, 17, 0, 0), 1);
        Check.tell(x, "beam b 99 0;clock x b 0 1 50;clock y b 1 9 50 phase 200;");
        Check.same("and of another text", x.least(3, 17, 0, 0), -2);
        twoMoves();
    }

    /** By 38 steps x strikes once by itself, twice if it is drawn, and never where it is at rest. */
    private static void twoMoves() {
        String clocks = "clock y b 3 9 50 phase 200;clock z b 4 9 50 phase 200;";
        BeamClocks x = Check.told("beam b 99 0;beam c 0 0;law go 50 * (place > 1);clock x b 2 1 50;" + clocks);
        Check.same("x alone goes away", x.least(1, 38, 0, 0), 1);
        Check.same("on c", x.least(1, 38, 0, 2), 1);
        Check.same("at 2, where it isn't at rest", x.least(1, 38, 0, 3), 2);
        BeamClocks y = Check.told("beam b 99 0;beam c 0 0;law go 50 * (weight > 1 or place > 9);clock x b 10 1 50;"
                + clocks);
        int[] want = {2, 1, 1, 0, 2, 1, 1};
        for (int what = 0; what <= 6; what++) {
            Check.same("x must stay, y and z leave it: what " + what, y.least(1, 38, 0, what), want[what]);
        }
        BeamClocks z = Check.told("beam c 0 0;beam b 99 0;law go 50 * (weight > 1 or place > 9);" + clocks
                + "clock x b 10 1 50;");
        int[] first = {2, 0, 0, 0, 1, 0, 1};
        for (int what = 0; what <= 6; what++) {
            Check.same("the very first places: what " + what, z.least(4, 38, 0, what), first[what]);
        }
    }

    private static void promise24() {
        BeamClocks x = Check.told("beam b 0 0;clock x b 0 1 10;clock y b 1 1 3;clock z b 2 1 98;");
        Check.same("3 of 200 by 15", x.mend(0, 200, 3), 5);
        Check.same("2 of 200", x.mend(0, 200, 2), 0);
        Check.same("1 of 200 by 9", x.mend(0, 200, 1), -1);
        Check.same("0 of 200 by 4", x.mend(0, 200, 0), -6);
        Check.same("all too few: 3 by 15 is the nearest", x.mend(0, 200, 999), 5);
        Check.same("1 at least", x.mend(1, 1000, 0), -2);
        Check.same("99 at most", x.mend(2, 1000, 999), 1);
        Check.same("n 0", x.mend(0, 0, 5), 0);
        Check.same("count 1000", x.mend(0, 10, 1000), Integer.MIN_VALUE);
        Check.same("count -1", x.mend(0, 10, -1), Integer.MIN_VALUE);
        Check.same("n 2001", x.mend(0, 2001, 1), Integer.MIN_VALUE);
        Check.same("n -1", x.mend(0, -1, 1), Integer.MIN_VALUE);
        Check.same("no such", x.mend(3, 1, 1), Integer.MIN_VALUE);
        Check.same("no such", x.mend(-1, 1, 1), Integer.MIN_VALUE);
        Check.same("its speed stays", Check.look(x, 0, 3), 10);
        BeamClocks y = Check.told("beam b 0 0;law go (speed <> 10) * 10;clock x b 0 1 10;");
        Check.same("of two alike that below 0", y.mend(0, 100, 1), -1);
        BeamClocks z = Check.told("beam b 0 0;law go (speed <> 10) * (speed > 8) * 10;clock x b 0 1 10 phase 990;");
        Check.same("nearest from above and below", z.mend(0, 100, 0), 0);
    }

    private static void promise25() {
        BeamClocks x = Check.told("beam b 0 0;clock x b 0 1 10 start 700;clock y b 1 1 10 phase 50;");
        // y first: 50 more, and 10 times 5 more; x first: x is as far as y when y starts
        Check.same("the step", x.order(50, 5, 0, 0), 5);
        Check.same("the first", x.order(50, 5, 0, 1), 0);
        Check.same("the second", x.order(50, 5, 0, 2), 1);
        Check.same("y behind by 10 gaps of 4", x.order(50, 4, 10, 1), 0);
        Check.same("by none", x.order(50, 4, 9, 0), -2);
        Check.same("by none: its clocks", x.order(50, 4, 9, 1), -2);
        Check.same("both by 90: the first order", x.order(50, 4, 90, 1), 0);
        Check.same("all orders are one", x.order(50, 0, 50, 0), 0);
        Check.same("the last start is too late", x.order(5, 5, 500, 0), -2);
        Check.same("in time", x.order(6, 5, 500, 0), 5);
        Check.same("n 0", x.order(0, 0, 500, 0), -1);
        Check.same("n 301", x.order(301, 0, 500, 0), -1);
        Check.same("n 300", x.order(300, 0, 500, 0), 0);
        Check.same("g 100", x.order(300, 100, 500, 0), -1);
        Check.same("g -1", x.order(300, -1, 500, 0), -1);
        Check.same("w 501", x.order(300, 1, 501, 0), -1);
        Check.same("w -1", x.order(300, 1, -1, 0), -1);
        Check.same("what 3", x.order(50, 5, 0, 3), -1);
        Check.same("what -1", x.order(50, 5, 0, -1), -1);
        BeamClocks y = Check.told("beam b 0 0;clock y b 1 1 10 phase 50;clock x b 0 1 10;");
        Check.same("the other one first", y.order(50, 5, 0, 1), 1);
        Check.same("then this one", y.order(50, 5, 0, 2), 0);
        Check.same("no clocks", new BeamClocks().order(5, 0, 0, 0), -1);
        BeamClocks u = Check.told("beam b 0 0;law go place;clock x b 1 1 10;clock y b 2 1 10;");
        Check.same("drifting apart", u.order(9, 0, 5, 0), -2);
        u.hang(0, 0, 3);
        Check.same("the same asked of other hangings", u.order(9, 0, 9, 0), 0);
        u.hang(0, 0, 1);
        u.hang(1, 0, 4);
        Check.same("and of others again", u.order(9, 0, 9, 0), -2);
        u.undo();
        Check.same("and undone", u.order(9, 0, 9, 0), 0);
        Check.same("by another w", u.order(9, 0, 8, 0), -2);
        Check.same("by another n", u.order(8, 0, 8, 0), 0);
        Check.same("by another g", u.order(8, 1, 8, 0), 1);
        Check.tell(u, "beam b 0 0;clock x b 1 1 10;clock y b 2 1 10 phase 500;");
        Check.same("and of another text", u.order(8, 1, 8, 0), -2);
        BeamClocks z = Check.told("beam b 0 0;law lose 100;clock x b 0 1 10;");
        Check.same("it runs up to the end of 4", z.order(4, 0, 0, 0), 0);
        Check.same("it is stopped at the end of 5", z.order(5, 0, 0, 0), -2);
        // going at 20 and 10 they meet at the end of step 4 only, and part again
        BeamClocks v = Check.told("beam b 0 0;clock x b 0 1 20;clock y b 1 1 10 phase 50;");
        Check.same("together just at the end", v.order(5, 0, 0, 0), 4);
        Check.same("not up to the end", v.order(6, 0, 0, 0), -2);
        Check.same("10 apart twice", v.order(6, 0, 10, 0), 3);
    }

    private static void promise26() {
        BeamClocks x = Check.told(FREE);
        x.steps(7);
        Check.same("due(0, 0)", x.due(0, 0), 99);
        Check.same("due(1, 2)", x.due(1, 2), 149);
        Check.same("due(0, 19)", x.due(0, 19), 1999);
        Check.same("due(0, 20)", x.due(0, 20), -2);
        Check.same("due(0, MAX)", x.due(0, Integer.MAX_VALUE), -2);
        Check.same("due(0, -1)", x.due(0, -1), -1);
        Check.same("due(2, 0)", x.due(2, 0), -1);
        Check.same("due(-1, 99)", x.due(-1, 99), -1);
        BeamClocks y = Check.told("beam b 0 0;clock x b 0 1 10 phase 990;clock y b 1 1 10;");
        Check.same("in step 0", y.due(0, 0), 0);
        Check.same("in step 1900", y.due(0, 19), 1900);
        Check.same("step 2000 is no more of it", y.due(0, 20), -2);
        Check.same("gain of step 0", y.gain(0, 1, 0), -99);
        Check.same("gain by step 0", y.gain(1, 0, 0), 99);
    }

    private static void promise27() {
        BeamClocks x = Check.told(FREE);
        Check.same("gain(0, 1, 0)", x.gain(0, 1, 0), 50);
        Check.same("gain(1, 0, 1)", x.gain(1, 0, 1), -100);
        Check.same("one and the same", x.gain(1, 1, 3), 0);
        Check.same("one isn't due", x.gain(0, 1, 25), Integer.MIN_VALUE);
        Check.same("one isn't due", x.gain(1, 0, 25), Integer.MIN_VALUE);
        Check.same("k -1", x.gain(0, 1, -1), Integer.MIN_VALUE);
        Check.same("no such", x.gain(0, 2, 0), Integer.MIN_VALUE);
        Check.same("no such", x.gain(-1, 0, 0), Integer.MIN_VALUE);
    }

    private static void promise28() {
        BeamClocks x = Check.told(FREE);
        Check.same("step -1", x.heard(-1, 0, true), -1);
        Check.same("step 2000", x.heard(2000, 0, true), -1);
        Check.same("clock 2", x.heard(0, 2, true), -1);
        Check.same("clock -2", x.heard(0, -2, true), -1);
        Check.same("the first", x.heard(1999, 1, true), 0);
        Check.same("the second", x.heard(0, -1, false), 1);
        for (int i = 2; i < 40; i++) {
            Check.same("number " + i, x.heard(i, 0, false), i);
        }
        Check.same("there are 40", x.heard(0, 0, false), -1);
        Check.same("nor a strike", x.strike(0), -1);
        Check.same("40 heard", x.count(5), 40);
        Check.same("all are so", x.fits(), 1);
        BeamClocks y = Check.told(FREE);
        for (int i = 0; i < 39; i++) {
            y.heard(5, 0, i == 0);
        }
        Check.same("the first isn't so", y.fits(), 0);
        Check.same("the last strikes it", y.strike(0), 39);
        Check.same("and counts", y.fits(), 1);
    }

    private static void promise29() {
        BeamClocks x = Check.told(FREE);
        Check.same("nothing heard", x.strike(0), -1);
        x.heard(5, 0, true);
        Check.same("it isn't so", x.fits(), 0);
        Check.same("strike -1", x.strike(-1), -1);
        Check.same("strike 1", x.strike(1), -1);
        Check.same("strike 0", x.strike(0), 1);
        Check.same("struck", x.fits(), 1);
        Check.same("the strike struck", x.strike(1), 2);
        Check.same("it counts again", x.fits(), 0);
        Check.same("struck twice", x.strike(0), 3);
        Check.same("one of both holds", x.fits(), 1);
        Check.same("the strike of the strike struck", x.strike(2), 4);
        x.strike(3);
        Check.same("the first strike holds still", x.fits(), 1);
        Check.same("all are heard", x.count(5), 6);
    }

    private static void promise30() {
        BeamClocks x = Check.told(FREE);
        Check.yes("known(0)", x.known(0));
        x.heard(5, 0, true);
        Check.same("by none", x.fits(), 1);
        Check.same("count", x.count(6), 0);
        Check.yes("known(1)", x.known(1));
        Check.same("by one", x.fits(), 0);
        Check.no("known(2)", x.known(2));
        Check.no("known(-2)", x.known(-2));
        x.strike(0);
        Check.same("the strike is not one of these", x.fits(), 0);
        Check.yes("known(-1)", x.known(-1));
        Check.same("by all", x.fits(), 1);
        Check.same("how many there are", x.count(6), 2);
        x.heard(6, 0, true);
        Check.same("also those to come", x.fits(), 0);
        Check.same("how many there are now", x.count(6), 3);
        x.keep();
        x.known(2);
        x.back();
        Check.same("an image does not keep it", x.count(6), 2);
    }

    private static void promise31() {
        BeamClocks x = Check.told("beam b 0 0;law go place;clock x b 10 1 1;clock y b 20 1 1;may m hang x b 21;"
                + "may n hang y b 5;may o;");
        Check.same("without any heard", x.fits(), 15);
        x.heard(99, 0, true);
        Check.same("x at 10", x.fits(), 2 | 4 | 8);
        x.heard(49, 1, true);
        Check.same("y at 20", x.fits(), 4 | 8);
        x.heard(50, -1, false);
        Check.same("none in 50", x.fits(), 4 | 8);
        x.heard(49, 0, false);
        Check.same("not x in 49", x.fits(), 4 | 8);
        x.hang(0, 0, 11);
        x.steps(3);
        Check.same("as told, not as they hang now", x.fits(), 4 | 8);
        x.heard(1999, -1, true);
        Check.same("in the last step", x.fits(), 4 | 8);
        x.heard(1999, -1, false);
        Check.same("both at once", x.fits(), 0);
        x.known(0);
        x.heard(0, 0, true);
        Check.same("known by none", x.fits(), 15);
        BeamClocks y = Check.told("beam b 9 1;clock x b 0 1 9;may m hang x b 0;");
        y.heard(111, -1, true);
        Check.same("x by 9 in 111", y.fits(), 3);
    }

    private static void promise32() {
        BeamClocks x = Check.told("beam a 99 50;beam b 0 0;wall 99;clock x a 0 1 50;clock y a 1 9 50 phase 200;");
        Check.same("drawn", x.run(0, 17, 0), 1);
        Check.same("0 without y", x.tried(0, 1, 17, 0), 0);
        Check.same("0 without y, of y", x.tried(0, 1, 2000, 1), 0);
        Check.same("0 without x, of y", x.tried(0, 0, 16, 1), 1);
        Check.same("1 without wall", x.tried(1, 0, 17, 0), 1);
        Check.same("4 twice as stiff", x.tried(4, 0, 17, 0), 0);
        Check.same("4 the other beam", x.tried(4, 1, 17, 0), 1);
        Check.same("what 6", x.tried(6, 0, 17, 0), -1);
        Check.same("what -1", x.tried(-1, 0, 17, 0), -1);
        for (int what = 1; what <= 3; what++) {
            Check.same("i 1 of " + what, x.tried(what, 1, 17, 0), -1);
            Check.same("i -1 of " + what, x.tried(what, -1, 17, 0), -1);
        }
        Check.same("no such clock i", x.tried(0, 2, 17, 0), -1);
        Check.same("no such clock i", x.tried(5, -1, 17, 0), -1);
        Check.same("no such beam", x.tried(4, 2, 17, 0), -1);
        Check.same("n 2001", x.tried(1, 0, 2001, 0), -1);
        Check.same("n -1", x.tried(1, 0, -1, 0), -1);
        Check.same("no such clock", x.tried(1, 0, 1, 2), -1);
        Check.same("no such clock", x.tried(1, 0, 1, -1), -1);
        x.hang(1, 1, 1);
        Check.same("drawn by the wall", x.run(0, 17, 0), 1);
        Check.same("1 without wall, hung as now", x.tried(1, 0, 17, 0), 0);
        Check.same("and as it was", x.run(0, 17, 0), 1);
        BeamClocks v = Check.told("beam a 0 0;beam b 0 0;wall 1;clock x a 0 1 52;clock y b 0 9 52 phase 200;");
        Check.same("drawn a little by the wall", v.run(0, 19, 0), 1);
        Check.same("1 without wall it is none", v.tried(1, 0, 19, 0), 0);
        BeamClocks y = Check.told("beam b 0 0;law lose 100;law go weight * 10;clock x b 0 5 1;clock y b 1 1 1 start 90;");
        Check.same("stopped", y.run(0, 20, 0), 0);
        Check.same("2 no loss", y.tried(2, 0, 20, 0), 1);
        Check.same("2 no loss, one step less", y.tried(2, 0, 19, 0), 0);
        BeamClocks z = Check.told("beam b 0 0;law go weight * 10;clock x b 0 5 1;clock y b 1 1 1 start 90;");
        Check.same("by its weight", z.run(0, 20, 0), 1);
        Check.same("3 all weights 1", z.tried(3, 0, 99, 0), 0);
        Check.same("3 all weights 1, one more", z.tried(3, 0, 100, 0), 1);
        Check.same("not started yet", z.run(1, 100, 0), 0);
        Check.same("5 started at 0", z.tried(5, 1, 100, 1), 1);
        Check.same("5 the other one", z.tried(5, 0, 100, 1), 0);
        BeamClocks w = Check.told("beam a 99 40;clock x a 0 1 50;clock y a 1 9 50 phase 200;");
        Check.same("4 twice 40 leaves 19", w.tried(4, 0, 18, 0), 1);
    }

    private static void promise33() {
        BeamClocks x = Check.told("beam b 0 0;clock x b 0 1 10;clock y b 1 1 10;");
        // by seed 1: 838 758, 113 515, 51 627, 10 419, 212 86, 749 767, 84 60, 225 543, 89 183, 137 566
        Check.same("w 17", x.chance(1, 1, 17), 0);
        Check.same("w 18", x.chance(1, 1, 18), 1);
        Check.same("w 24", x.chance(1, 1, 24), 2);
        Check.same("w 80", x.chance(1, 500, 80), 3);
        Check.same("w 94", x.chance(1, 1, 94), 4);
        Check.same("w 126", x.chance(1, 1, 126), 5);
        Check.same("w 318", x.chance(1, 1, 318), 6);
        Check.same("w 429", x.chance(1, 1, 429), 10);
        Check.same("w 428", x.chance(1, 1, 428), 9);
        Check.same("n 0: none runs", x.chance(1, 0, 500), 0);
        Check.same("seed MAX", x.chance(Integer.MAX_VALUE, 1, 500), 10);
        Check.same("seed 0", x.chance(0, 1, 500), 10);
        Check.same("seed -1", x.chance(-1, 1, 500), -1);
        Check.same("n 501", x.chance(1, 501, 500), -1);
        Check.same("n -1", x.chance(1, -1, 500), -1);
        Check.same("w 501", x.chance(1, 1, 501), -1);
        Check.same("w -1", x.chance(1, 1, -1), -1);
        Check.same("nothing changed", Check.look(x, 0, 4), 0);
        Check.same("no clocks at all", new BeamClocks().chance(1, 0, 0), 10);
        BeamClocks y = Check.told("beam b 0 0;clock x b 0 1 10;clock y b 1 1 10 start 3;");
        Check.same("not all run", y.chance(1, 3, 500), 0);
        Check.same("all run", y.chance(1, 4, 500), 10);
    }

    private static void promises34And35() {
        BeamClocks x = Check.told(FREE);
        Check.same("no image", x.back(), -1);
        x.steps(120);
        x.hang(0, 0, 5);
        Check.same("keep", x.keep(), 120);
        Check.same("keep leaves what can be undone", x.count(7), 1);
        x.undo();
        x.stop(1);
        x.steps(100);
        x.heard(3, 0, true);
        x.known(0);
        x.feed(0, 0, 0, 0, 0);
        Check.same("back", x.back(), 120);
        Check.same("the step", x.count(4), 120);
        Check.same("hung as in the image", Check.look(x, 0, 1), 5);
        Check.same("it runs", Check.look(x, 1, 7), 1);
        Check.same("its swing", Check.look(x, 1, 5), 500);
        Check.same("its phase", Check.look(x, 1, 4), 400);
        Check.same("its count", Check.look(x, 1, 6), 2);
        Check.same("all counts", x.count(9), 3);
        Check.same("nothing to undo", x.undo(), -1);
        Check.same("what went by", x.was(0, 119), 200);
        Check.same("no more went by", x.was(0, 120), -1);
        Check.same("strokes", x.stroke(0, 1), -2);
        Check.same("falls", x.falls(), 1);
        Check.same("what was heard stays", x.count(5), 1);
        Check.same("what is known stays", x.count(6), 0);
        Check.same("the tape stays", x.feed(0, 0, 0, 0, 0), 40);
        x.steps(80);
        Check.same("on from there", x.stroke(1, 3), 199);
        Check.same("back once more", x.back(), 120);
        x.steps(1);
        Check.same("in place of the one ahead", x.keep(), 121);
        x.steps(9);
        Check.same("back to that", x.back(), 121);
        x.text(40);
        Check.same("a faulty text leaves the image", x.back(), 121);
        Check.tell(x, FREE);
        Check.same("a text leaves no image", x.back(), -1);
        BeamClocks z = Check.told("beam b 0 0;law lose 3;clock x b 0 1 10;clock y b 1 2 20;");
        z.steps(99);
        z.keep();
        z.steps(1);
        Check.same("a fall", z.falls(), 1);
        z.back();
        Check.same("its swing as in the image", Check.look(z, 0, 5), 500 - 297);
        Check.same("no stroke of the step that is next", z.stroke(0, 0), -2);
        Check.same("nor a fall", z.falls(), 0);
        Check.same("nor its step", z.fall(0), -2);
        BeamClocks y = Check.told(DRAWN);
        y.keep();
        y.hang(0, 1, 3);
        Check.same("out of reach", y.run(0, 17, 0), 0);
        Check.same("least of that", y.least(1, 17, 0, 0), 0);
        y.back();
        Check.same("in reach again", y.run(0, 17, 0), 1);
        Check.same("least of this", y.least(1, 17, 0, 0), 1);
        y.steps(1);
        Check.same("drawn again", Check.look(y, 0, 4), 228);
    }

    private static void promise36() {
        BeamClocks x = Check.told("beam a 0 0;beam b 0 0;law go speed + 1;clock x a 0 1 99;clock y a 1 1 49;"
                + "clock z b 1 1 9 start 30;may m;");
        x.steps(20);
        x.heard(1, 1, true);
        x.heard(1, 2, true);
        x.known(1);
        x.stop(0);
        // go's E is 99 at most: x strikes once by then, y as well
        int[] want = {2, 3, 1, 3, 20, 2, 1, 1, 1, 2};
        for (int what = 0; what <= 9; what++) {
            Check.same("count(" + what + ")", x.count(what), want[what]);
        }
        Check.same("count(10)", x.count(10), -1);
        Check.same("count(-1)", x.count(-1), -1);
    }
}
