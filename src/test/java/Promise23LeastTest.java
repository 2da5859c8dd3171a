/** Promise 23: least. */
public final class Promise23LeastTest {
    /** x is drawn ahead by y: it strikes in step 16, by itself in step 19. */
    private static final String DRAWN = "beam b 99 0;beam c 0 0;clock x b 0 1 50;clock y b 1 9 50 phase 200;";

    public static void main(String[] args) {
        ordinary();
        noneMoved();
        notMoreThanK();
        placesUpTo9();
        whereTheOtherWas();
        noTwoAtOnePlace();
        theFirstOfSeveral();
        notByTwo();
        noSuchOnes();
        noneGoesFirst();
        ownTimeAsAllHangNow();
        theSixthClockToo();
        onlyAsked();
        Check.end();
    }

    private static void ordinary() {
        BeamClocks x = Check.told(DRAWN);
        int[] want = {1, 0, 1, 0, -1, -1, -1};
        for (int what = 0; what <= 6; what++) {
            Check.same("least(1, 17, 0, " + what + ")", x.least(1, 17, 0, what), want[what]);
        }
        Check.same("none told", x.least(0, 17, 0, 0), 0);
        Check.same("k 1", x.least(1, 17, 1, 0), 0);
        Check.same("none moved: the one", x.least(1, 17, 1, 1), -1);
        Check.same("n 0", x.least(3, 0, 0, 0), 0);
        Check.same("bits 4", x.least(4, 17, 0, 0), -1);
        Check.same("bits -1", x.least(-1, 17, 0, 0), -1);
        Check.same("n 61", x.least(1, 61, 0, 0), -1);
        Check.same("n -1", x.least(1, -1, 0, 0), -1);
        Check.same("k 100", x.least(1, 17, 100, 0), -1);
        Check.same("k -1", x.least(1, 17, -1, 0), -1);
        Check.same("what 7", x.least(1, 17, 0, 7), -1);
        Check.same("what -1", x.least(1, 17, 0, -1), -1);
        x.hang(0, 1, 30);
        Check.same("hung out of reach: none", x.least(1, 17, 0, 0), 0);
        x.undo();
        Check.same("undone: one again", x.least(1, 17, 0, 0), 1);
        BeamClocks y = Check.told("beam b 99 0;clock x b 0 1 50;clock y b 1 9 50 phase 200;");
        Check.same("no place is out of reach", y.least(1, 17, 0, 0), -2);
        Check.same("nor for its parts", y.least(1, 17, 0, 1), -2);
        Check.same("nothing is changed by it", Check.look(y, 0, 1), 0);
        Check.same("asked", x.least(1, 17, 0, 0), 1);
        x.hang(0, 1, 30);
        Check.same("the same asked of other hangings", x.least(1, 17, 0, 0), 0);
        x.undo();
        Check.same("and undone", x.least(1, 17, 0, 0), 1);
        Check.same("by another k", x.least(1, 17, 1, 0), 0);
        Check.same("by another n", x.least(1, 16, 1, 0), 0);
        Check.same("of others", x.least(3, 17, 0, 0), 1);
        Check.tell(x, "beam b 99 0;clock x b 0 1 50;clock y b 1 9 50 phase 200;");
        Check.same("and of another text", x.least(3, 17, 0, 0), -2);
        twoMoves();
    }

    /** By 38 steps x strikes once by itself, twice if it is drawn, and never where it is at rest. */
    private static void twoMoves() {
        String clocks = "clock y b 3 9 50 phase 200;clock z b 4 9 50 phase 200;";
        BeamClocks x = Check.told("beam b 99 0;beam c 0 0;law go 50 * (place > 1);clock x b 2 1 50;" + clocks);
        Check.same("x alone goes away", x.least(1, 38, 0, 0), 1);
        Check.same("on c", x.least(1, 38, 0, 2), 1);
        Check.same("at 2, where it isn't at rest", x.least(1, 38, 0, 3), 2);
        BeamClocks y = Check.told("beam b 99 0;beam c 0 0;law go 50 * (weight > 1 or place > 9);clock x b 10 1 50;"
                + clocks);
        int[] want = {2, 1, 1, 0, 2, 1, 1};
        for (int what = 0; what <= 6; what++) {
            Check.same("x must stay, y and z leave it: what " + what, y.least(1, 38, 0, what), want[what]);
        }
        BeamClocks z = Check.told("beam c 0 0;beam b 99 0;law go 50 * (weight > 1 or place > 9);" + clocks
                + "clock x b 10 1 50;");
        int[] first = {2, 0, 0, 0, 1, 0, 1};
        for (int what = 0; what <= 6; what++) {
            Check.same("the very first places: what " + what, z.least(4, 38, 0, what), first[what]);
        }
    }

    private static void asked(BeamClocks x, int clocks, int n, int k, int... due) {
        for (int what = 0; what <= 6; what++) {
            Check.same("least(" + clocks + ", " + n + ", " + k + ", " + what + ")", x.least(clocks, n, k, what), due[what]);
        }
    }

    private static void noneMoved() {
        Check.of("promise 23: what 0: how many; NONE, if there is none");
        BeamClocks x = Check.told(DRAWN);
        asked(x, 0, 60, 0, 0, -1, -1, -1, -1, -1, -1);
        asked(x, 3, 0, 0, 0, -1, -1, -1, -1, -1, -1);
        asked(x, 3, 60, 99, 0, -1, -1, -1, -1, -1, -1);
        asked(x, 1, 17, 0, 1, 0, 1, 0, -1, -1, -1);
        // y strikes in its own time by then
        asked(x, 2, 17, 0, 0, -1, -1, -1, -1, -1, -1);
    }

    private static void notMoreThanK() {
        Check.of("==== 3: COUNT is not more than k from its OWN time");
        BeamClocks more = Check.told(DRAWN);
        Check.same("one more than its own", more.run(0, 17, 0) - more.own(0, 17), 1);
        Check.same("k 0", more.least(1, 17, 0, 0), 1);
        Check.same("k 1", more.least(1, 17, 1, 0), 0);
        BeamClocks less = Check.told("beam b 99 0;beam c 0 0;clock x b 0 1 50 phase 900;clock y b 1 9 50 phase 700;");
        Check.same("one less than its own", less.run(0, 2, 0) - less.own(0, 2), -1);
        Check.same("k 0", less.least(1, 2, 0, 0), 1);
        Check.same("k 1", less.least(1, 2, 1, 0), 0);
        // at rest by itself, x is carried along by y, five times round in 60 steps; no move of one or two helps
        BeamClocks five = Check.told("beam b 99 0;wall 99;law go 99 * (weight > 1);clock x b 0 1 50;clock y b 1 9 50;");
        int far = five.run(0, 60, 0) - five.own(0, 60);
        Check.same("carried along", far, 5);
        Check.same("k 4", five.least(1, 60, 4, 0), -2);
        Check.same("k 5", five.least(1, 60, 5, 0), 0);
    }

    /** x keeps its time only where it is held back: at such a place, which go's E names. */
    private static BeamClocks heldAt(int place) {
        return Check.told("beam b 99 0;beam c 99 0;wall 99;law go 50 * (weight > 1 or place <> " + place + ");"
                + "clock x b 20 1 50;clock y b 21 9 50 phase 200;");
    }

    private static void placesUpTo9() {
        Check.of("==== 3: LEAST: any CLOCK, any BEAM, a PLACE 0 .. 9");
        asked(heldAt(0), 1, 17, 0, 1, 0, 0, 0, -1, -1, -1);
        asked(heldAt(5), 1, 17, 0, 1, 0, 0, 5, -1, -1, -1);
        asked(heldAt(9), 1, 17, 0, 1, 0, 0, 9, -1, -1, -1);
        asked(heldAt(10), 1, 17, 0, -2, -2, -2, -2, -2, -2, -2);
        BeamClocks now = heldAt(10);
        now.hang(0, 1, 10);
        Check.same("it may hang there now, though", now.run(0, 17, 0), 0);
        BeamClocks third = Check.told("beam a 99 0;beam b 99 0;beam c 0 0;wall 99;law go 50;clock y a 0 9 50 phase 200;"
                + "clock x a 1 1 50;");
        // by the wall each beam reaches each, so both must hang on the last one
        asked(third, 2, 17, 0, 2, 0, 2, 0, 1, 2, 1);
        BeamClocks open = Check.told("beam a 99 0;beam b 99 0;beam c 0 0;law go 50;clock y a 0 9 50 phase 200;clock x a 1 1 50;");
        asked(open, 2, 17, 0, 1, 0, 1, 0, -1, -1, -1);
    }

    private static void whereTheOtherWas() {
        Check.of("==== 3: in the end no two at one PLACE, so one may hang where the other was");
        // x keeps its time at 4 alone, where y hangs; y must go on as it does, at 3 or 4
        BeamClocks x = Check.told("beam b 99 0;law go 50 * (weight > 1 or place <> 4) + 49 * (weight > 1 and place <> 3 and "
                + "place <> 4);clock x b 3 1 50;clock y b 4 9 50 phase 200;");
        asked(x, 1, 17, 0, 2, 0, 0, 4, 1, 0, 3);
        // without that y may go to the first place
        BeamClocks y = Check.told("beam b 99 0;law go 50 * (weight > 1 or place <> 4);clock x b 3 1 50;"
                + "clock y b 4 9 50 phase 200;");
        asked(y, 1, 17, 0, 2, 0, 0, 4, 1, 0, 0);
    }

    private static void noTwoAtOnePlace() {
        Check.of("==== 3: in the end no two at one PLACE");
        // x is held back at 4 alone, and z hangs there
        BeamClocks x = Check.told("beam b 99 0;law go 50 * (weight > 1 or place <> 4);clock x b 3 1 50;"
                + "clock y b 5 7 50 phase 200;clock z b 4 2 50 phase 200;");
        asked(x, 1, 17, 0, 2, 0, 0, 4, 2, 0, 0);
        BeamClocks free = Check.told("beam b 99 0;law go 50 * (weight > 1 or place <> 4);clock x b 3 1 50;"
                + "clock y b 5 7 50 phase 200;clock z b 6 2 50 phase 200;");
        asked(free, 1, 17, 0, 1, 0, 0, 4, -1, -1, -1);
    }

    private static void theFirstOfSeveral() {
        Check.of("==== 3: of several the first by CLOCK, BEAM, PLACE of the one, then of the other (a greater CLOCK)");
        // either may go, to either beam: the first clock, the first beam out of reach, its first place
        BeamClocks x = Check.told("beam a 0 0;beam b 99 0;beam c 0 0;clock x b 0 1 50;clock y b 1 9 50 phase 200;");
        asked(x, 1, 17, 0, 1, 0, 0, 0, -1, -1, -1);
        BeamClocks taken = Check.told("beam a 0 0;beam b 99 0;beam c 0 0;clock x b 0 1 50;clock y b 1 9 50 phase 200;"
                + "clock z a 0 1 1;");
        asked(taken, 1, 17, 0, 1, 0, 0, 1, -1, -1, -1);
        BeamClocks other = Check.told("beam b 99 0;beam a 0 0;law go 50 * (weight > 1 or place > 9);clock x b 10 1 50;"
                + "clock y b 1 9 50 phase 200;");
        // x has no place at which it goes, so y must
        asked(other, 1, 38, 0, 1, 1, 1, 0, -1, -1, -1);
    }

    private static void notByTwo() {
        Check.of("promise 23: -2: not by two");
        BeamClocks three = Check.told("beam b 99 0;beam c 0 0;law go 50 * (weight > 1 or place > 9);clock x b 10 1 50;"
                + "clock p b 1 9 50 phase 200;clock q b 2 9 50 phase 200;clock r b 3 9 50 phase 200;");
        asked(three, 1, 38, 0, -2, -2, -2, -2, -2, -2, -2);
        BeamClocks two = Check.told("beam b 99 0;beam c 0 0;law go 50 * (weight > 1 or place > 9);clock x b 10 1 50;"
                + "clock p b 1 9 50 phase 200;clock q b 2 9 50 phase 200;");
        asked(two, 1, 38, 0, 2, 1, 1, 0, 2, 1, 1);
    }

    private static void noSuchOnes() {
        Check.of("promise 23: NONE: no such ones (n 0 .. 60, k 0 .. 99)");
        Twins.unchanged("bits 8", x -> x.least(8, 5, 0, 0), -1);
        Twins.unchanged("bits -1", x -> x.least(-1, 5, 0, 0), -1);
        Twins.unchanged("n 61", x -> x.least(1, 61, 0, 0), -1);
        Twins.unchanged("n -1", x -> x.least(1, -1, 0, 0), -1);
        Twins.unchanged("k 100", x -> x.least(1, 5, 100, 0), -1);
        Twins.unchanged("k -1", x -> x.least(1, 5, -1, 0), -1);
        Twins.unchanged("what 7", x -> x.least(1, 5, 0, 7), -1);
        Twins.unchanged("what -1", x -> x.least(1, 5, 0, -1), -1);
        BeamClocks x = Check.told(DRAWN);
        Check.same("all of them, n 60, k 99, what 6", x.least(3, 60, 99, 6), -1);
        Check.same("all of them, n 60, k 99", x.least(3, 60, 99, 0), 0);
        for (int far : Twins.FAR) {
            Check.same("bits " + far, x.least(far, 5, 0, 0), -1);
            Check.same("n " + far, x.least(1, far, 0, 0), -1);
            Check.same("k " + far, x.least(1, 5, far, 0), -1);
            Check.same("what " + far, x.least(1, 5, 0, far), -1);
        }
        BeamClocks six = Check.told("beam b 0 0;clock u b 0 1 1;clock v b 1 1 1;clock w b 2 1 1;clock x b 3 1 1;"
                + "clock y b 4 1 1;clock z b 5 1 1;");
        Check.same("all six", six.least(63, 60, 0, 0), 0);
        Check.same("a seventh", six.least(64, 60, 0, 0), -1);
        Check.same("a seventh and all", six.least(127, 60, 0, 0), -1);
    }

    private static void noneGoesFirst() {
        Check.of("==== 4: of several answers that hold NONE goes first");
        BeamClocks x = Check.told("beam b 99 0;clock x b 0 1 50;clock y b 1 9 50 phase 200;");
        Check.same("not by two", x.least(1, 17, 0, 0), -2);
        Check.same("not by two, what 7", x.least(1, 17, 0, 7), -1);
        Check.same("not by two, what -1", x.least(1, 17, 0, -1), -1);
        Check.same("not by two, with no such clock", x.least(5, 17, 0, 0), -1);
    }

    private static void ownTimeAsAllHangNow() {
        Check.of("==== 3: its OWN time (that as all hang now)");
        // x goes by its place: by 20 it strikes once in 60 steps, at a place up to 9 never
        BeamClocks x = Check.told("beam b 99 0;beam c 0 0;law go place;clock x b 20 1 1;clock y b 0 9 1 phase 200;");
        Check.same("own", x.own(0, 60), 1);
        asked(x, 1, 60, 0, 1, 1, 1, 0, -1, -1, -1);
        x.hang(0, 1, 20);
        asked(x, 1, 60, 0, 0, -1, -1, -1, -1, -1, -1);
    }

    private static void theSixthClockToo() {
        Check.of("==== 3: LEAST: any CLOCK, the sixth too");
        String four = "clock p c 1 1 50;clock q c 2 1 50;clock r c 3 1 50;clock s c 4 1 50;";
        // x is at rest at each place that it may be moved to, so the sixth must go; then the fifth and the sixth
        BeamClocks six = Check.told("beam b 99 0;beam c 0 0;law go 50 * (weight > 1 or place > 9);clock x b 10 1 50;"
                + four + "clock z b 20 9 50 phase 200;");
        asked(six, 1, 38, 0, 1, 5, 1, 0, -1, -1, -1);
        asked(six, 33, 38, 0, 1, 5, 1, 0, -1, -1, -1);
        BeamClocks two = Check.told("beam b 99 0;beam c 0 0;law go 50 * (weight > 1 or place > 9);clock x b 10 1 50;"
                + "clock p c 1 1 50;clock q c 2 1 50;clock r c 3 1 50;clock y b 21 9 50 phase 200;clock z b 20 9 50 phase 200;");
        asked(two, 1, 38, 0, 2, 4, 1, 0, 5, 1, 4);
        Check.same("where the sixth hangs", Check.look(two, 5, 1), 20);
    }

    private static void onlyAsked() {
        Check.of("promise 23: it is only asked, none is moved");
        Twins.unchanged("least", x -> x.least(3, 40, 0, 1), Twins.made(Twins::rich).least(3, 40, 0, 1));
        // the same asked again behind what changes the answer, and behind what doesn't
        BeamClocks x = Check.told(DRAWN);
        Check.same("one", x.least(1, 17, 0, 0), 1);
        x.steps(30);
        x.stop(1);
        x.heard(3, 0, true);
        Check.same("one still", x.least(1, 17, 0, 0), 1);
        x.keep();
        x.hang(0, 1, 30);
        Check.same("none", x.least(1, 17, 0, 0), 0);
        x.back();
        Check.same("one", x.least(1, 17, 0, 0), 1);
        Check.same("by another n: none", x.least(1, 16, 0, 0), 0);
        Check.same("one", x.least(1, 17, 0, 0), 1);
        Check.same("of others: none", x.least(2, 17, 0, 0), 0);
        Check.same("one", x.least(1, 17, 0, 0), 1);
        Check.same("by another k: none", x.least(1, 17, 1, 0), 0);
        Check.same("one", x.least(1, 17, 0, 0), 1);
        Check.same("refused", x.least(1, 61, 0, 0), -1);
        Check.same("one", x.least(1, 17, 0, 0), 1);
        Check.tell(x, "beam b 99 0;clock x b 0 1 50;clock y b 1 9 50 phase 200;");
        Check.same("not by two", x.least(1, 17, 0, 0), -2);
        Check.tell(x, DRAWN + "#");
        Check.same("a faulty text changes nothing", x.least(1, 17, 0, 0), -2);
    }
}
