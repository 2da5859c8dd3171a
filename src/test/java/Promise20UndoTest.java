/** Promise 20: undo. */
public final class Promise20UndoTest {
    private static final String TWO = "beam b 30 2;clock x b 0 1 10;clock y b 1 1 10 swing 77 start 9;";

    public static void main(String[] args) {
        ordinary();
        noneThere();
        twentyAtMost();
        stopsCountToo();
        ifNoStepWentBySince();
        refusedOnesAreNotByHand();
        behindAnImageAndAText();
        allIsAsItWas();
        onAnotherBeam();
        Check.end();
    }

    private static void ordinary() {
        BeamClocks x = Check.told("beam b 0 0;clock x b 0 1 10;clock y b 1 1 10 swing 77 start 1;");
        Check.same("none", x.undo(), -1);
        x.steps(1);
        x.hang(0, 0, 5);
        x.hang(1, 0, 0);
        x.stop(1);
        x.stop(0);
        Check.same("three left", x.undo(), 3);
        Check.same("it runs again", Check.look(x, 0, 7), 1);
        Check.same("two left", x.undo(), 2);
        Check.same("not started again", Check.look(x, 1, 7), 0);
        Check.same("its swing", Check.look(x, 1, 5), 77);
        Check.same("one left", x.undo(), 1);
        Check.same("hung back", Check.look(x, 1, 1), 1);
        Check.same("none left", x.undo(), 0);
        Check.same("hung back", Check.look(x, 0, 1), 0);
        Check.same("no more", x.undo(), -1);
        for (int i = 1; i <= 25; i++) {
            x.hang(0, 0, 1 + i);
        }
        Check.same("20 at most", x.count(7), 20);
        for (int i = 19; i >= 0; i--) {
            Check.same("undo", x.undo(), i);
            Check.same("hung as ahead of that", Check.look(x, 0, 1), 6 + i);
        }
        Check.same("five stay done", Check.look(x, 0, 1), 6);
        Check.same("no more", x.undo(), -1);
        x.hang(0, 0, 9);
        x.steps(0);
        Check.same("no step went by", x.count(7), 1);
        x.steps(-1);
        x.steps(4000);
        Check.same("nor now", x.count(7), 1);
        x.steps(1);
        Check.same("a step went by", x.undo(), -1);
        Check.same("hung there", Check.look(x, 0, 1), 9);
    }

    private static void noneThere() {
        Check.of("promise 20: NONE: none");
        Check.same("of a new object", new BeamClocks().undo(), -1);
        Twins.unchanged("a text, nothing by hand", x -> Check.tell(x, TWO), x -> x.undo(), -1);
        Twins.unchanged("all undone", x -> {
            Check.tell(x, TWO);
            x.hang(0, 0, 7);
            x.undo();
        }, x -> x.undo(), -1);
        Twins.unchanged("a step went by since", x -> {
            Check.tell(x, TWO);
            x.hang(0, 0, 7);
            x.steps(1);
        }, x -> x.undo(), -1);
    }

    /** Hangs a clock at 2, 3, 4, .. by so many calls. */
    private static BeamClocks moved(int times) {
        BeamClocks x = Check.told(TWO);
        for (int i = 0; i < times; i++) {
            x.hang(0, 0, 2 + i);
        }
        return x;
    }

    private static void twentyAtMost() {
        Check.of("==== 4: 20 at most, the latest first");
        for (int times : new int[] {1, 19, 20, 21, 22, 28}) {
            BeamClocks x = moved(times);
            int left = times < 20 ? times : 20;
            Check.same("of " + times, x.count(7), left);
            for (int i = 1; i <= left; i++) {
                Check.same("left of " + times, x.undo(), left - i);
                int due = times - i == 0 ? 0 : 1 + times - i;
                Check.same("place, undone " + i + " of " + times, Check.look(x, 0, 1), due);
                Check.same("can be undone", x.count(7), left - i);
            }
            Check.same("no more of " + times, x.undo(), -1);
        }
        BeamClocks x = moved(20);
        x.undo();
        x.hang(0, 0, 29);
        Check.same("one undone, one more", x.count(7), 20);
        x.hang(0, 0, 30);
        Check.same("20 still", x.count(7), 20);
        Check.same("the latest first", x.undo(), 19);
        Check.same("29", Check.look(x, 0, 1), 29);
    }

    private static void stopsCountToo() {
        Check.of("==== 4: each can be undone, hung elsewhere or STOPPED");
        BeamClocks x = moved(19);
        x.stop(1);
        Check.same("20", x.count(7), 20);
        x.stop(0);
        Check.same("20 of 21", x.count(7), 20);
        Check.same("the latest", x.undo(), 19);
        Check.same("x is not stopped", Check.look(x, 0, 7), 0);
        Check.same("y is", Check.look(x, 1, 7), 2);
        Check.same("the one ahead", x.undo(), 18);
        Check.same("y is not stopped", Check.look(x, 1, 7), 0);
        Check.same("its swing", Check.look(x, 1, 5), 77);
        Check.same("x hangs at its last place", Check.look(x, 0, 1), 20);
        for (int left = 17; left >= 0; left--) {
            Check.same("undo", x.undo(), left);
        }
        Check.same("the first stays done", Check.look(x, 0, 1), 2);
    }

    private static void ifNoStepWentBySince() {
        Check.of("==== 4: if no STEP went by since");
        BeamClocks x = moved(3);
        x.steps(0);
        x.steps(-1);
        x.steps(1001);
        Check.same("none went by", x.count(7), 3);
        Check.same("undo", x.undo(), 2);
        x.steps(1);
        Check.same("one went by", x.count(7), 0);
        Check.same("undo", x.undo(), -1);
        Check.same("it hangs where it hung", Check.look(x, 0, 1), 3);
        x.hang(0, 0, 9);
        Check.same("what is done behind the step", x.undo(), 0);
        Check.same("is undone", Check.look(x, 0, 1), 3);
        Check.same("and no more than that", x.undo(), -1);
    }

    private static void refusedOnesAreNotByHand() {
        Check.of("promise 20: the latest by hand; what was refused is none");
        BeamClocks x = moved(2);
        x.hang(0, 0, 3);
        x.hang(0, 0, 1);
        x.hang(0, 0, 31);
        x.hang(0, 1, 9);
        x.hang(2, 0, 9);
        x.stop(2);
        x.stop(-1);
        Check.same("two", x.count(7), 2);
        x.stop(1);
        x.stop(1);
        Check.same("three", x.count(7), 3);
        Check.same("undo", x.undo(), 2);
        Check.same("undo", x.undo(), 1);
        Check.same("the second hanging undone", Check.look(x, 0, 1), 2);
    }

    private static void behindAnImageAndAText() {
        Check.of("promise 35: nothing to undo then; promise 3: nothing to undo then");
        BeamClocks x = moved(3);
        x.keep();
        Check.same("keep leaves what can be undone", x.count(7), 3);
        x.hang(0, 0, 20);
        x.back();
        Check.same("back: nothing", x.count(7), 0);
        Check.same("undo", x.undo(), -1);
        Check.same("hung as in the image", Check.look(x, 0, 1), 4);
        x.hang(0, 0, 20);
        Check.tell(x, "#");
        Check.same("a faulty text leaves it", x.count(7), 1);
        Check.tell(x, TWO);
        Check.same("a text: nothing", x.undo(), -1);
    }

    private static void allIsAsItWas() {
        Check.of("promise 20: the latest by hand is undone: all is as ahead of it");
        Twins.Calls ahead = x -> {
            Check.tell(x, TWO);
            x.steps(20);
            x.keep();
            x.hang(0, 0, 12);
            x.least(1, 30, 0, 0);
            x.order(60, 5, 200, 0);
        };
        Twins.unchanged("a hanging and undo", ahead, x -> x.hang(0, 0, 3) ? x.undo() : 99, 1);
        Twins.unchanged("a stop and undo", ahead, x -> x.stop(0) ? x.undo() : 99, 1);
        Twins.unchanged("both and two undos", ahead, x -> {
            x.hang(1, 0, 30);
            x.least(1, 30, 0, 0);
            x.order(60, 5, 200, 0);
            x.stop(1);
            x.undo();
            return x.undo();
        }, 1);
    }

    private static void onAnotherBeam() {
        Check.of("promise 20: hung elsewhere is undone with its BEAM and PLACE");
        BeamClocks x = Check.told("beam a 50 1;beam b 60 2;beam c 70 3;wall 9;clock x a 4 1 10;clock y b 6 1 10;");
        x.hang(0, 2, 5);
        x.hang(0, 1, 7);
        x.hang(1, 2, 30);
        int[][] due = {{1, 7, 1, 6}, {2, 5, 1, 6}, {0, 4, 1, 6}};
        int[] reach = {58, 9, 9};
        for (int i = 0; i < 3; i++) {
            Check.same("undo", x.undo(), 2 - i);
            Check.same("beam of x", Check.look(x, 0, 0), due[i][0]);
            Check.same("place of x", Check.look(x, 0, 1), due[i][1]);
            Check.same("beam of y", Check.look(x, 1, 0), due[i][2]);
            Check.same("place of y", Check.look(x, 1, 1), due[i][3]);
            Check.same("their reach", x.reach(0, 1), reach[i]);
        }
    }
}
