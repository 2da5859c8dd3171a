/** Promise 3: text, what it answers and what it leaves. */
public final class Promise03TextTest {
    private static final String ONE_CLOCK = "beam b 0 0;clock x b 0 1 1;";
    private static final String WIDE = "beam a 90 7;beam b 60 9;beam c 1 1;wall 20;law lose 1;law go speed + count;"
            + "clock u a 3 2 41 drive 2 swing 9;clock v a 5 1 50 phase 200;clock w b 3 9 37 start 25;clock x b 4 9 37;"
            + "clock y c 3 9 37;clock z c 5 9 37;may m hang u b 9 hang v b 8;may n;may o;may p hang z a 0;";
    private static final String NARROW = "clock p b 3 4 60;clock q b 7 4 70;may m;";

    public static void main(String[] args) {
        ordinary();
        moreThanThereAre();
        belowZero();
        noneAtAll();
        fewerThanThereAre();
        allElseStaysWithAFault();
        allIsAsNewBehindAText();
        defaultsComeBack();
        howManyLines();
        Check.end();
    }

    private static void ordinary() {
        BeamClocks x = new BeamClocks();
        Check.feed(x, ONE_CLOCK);
        Check.same("text(-1)", x.text(-1), -2);
        Check.same("text(41)", x.text(41), -2);
        Check.same("text() of both lines, the tape stayed", x.text(ONE_CLOCK.length()), 2);
        Check.same("beams", x.count(0), 1);
        Check.same("text(1), the tape is empty now", x.text(1), -2);
        x.steps(5);
        x.hang(0, 0, 9);
        x.heard(0, 0, true);
        x.known(0);
        x.keep();
        Check.same("a faulty text", Check.tell(x, "wall 100;"), -1);
        Check.same("all else stays: step", x.count(4), 5);
        Check.same("all else stays: heard", x.count(5), 1);
        Check.same("all else stays: known", x.count(6), 0);
        Check.same("all else stays: undo", x.count(7), 1);
        Check.same("all else stays: clock", Check.look(x, 0, 1), 9);
        Check.same("all else stays: image", x.back(), 5);
        Check.same("the tape is empty behind a fault", x.feed(0, 0, 0, 0, 0), 20);
        x.text(20);
        Check.same("the same text anew", Check.tell(x, ONE_CLOCK), 2);
        Check.same("step 0 is next", x.count(4), 0);
        Check.same("hung as told", Check.look(x, 0, 1), 0);
        Check.same("nothing heard", x.count(5), 0);
        x.heard(1, -1, false);
        Check.same("all known", x.count(6), 1);
        Check.same("nothing to undo", x.undo(), -1);
        Check.same("no image", x.back(), -1);
        Check.same("an empty text", Check.tell(x, " \n "), 0);
        Check.same("no clocks then", x.count(1), 0);
        Check.same("no beams then", x.count(0), 0);
    }

    private static void moreThanThereAre() {
        Check.of("promise 3: -2, and the TAPE stays: there are not so many");
        Twins.unchanged("text(21)", x -> x.text(21), -2);
        for (int n : Twins.FAR) {
            Twins.unchanged("text(" + n + ")", x -> x.text(n), -2);
        }
        BeamClocks x = new BeamClocks();
        Check.feed(x, "wall 7;");
        Check.same("text(21)", x.text(21), -2);
        Check.same("text(20)", x.text(20), 1);
        Check.same("text(20) again: the tape is empty", x.text(20), -2);
    }

    private static void belowZero() {
        Check.of("promise 3: -2, and the TAPE stays: n is below 0");
        Twins.unchanged("text(-1)", x -> x.text(-1), -2);
        Twins.unchanged("text(-20)", x -> x.text(-20), -2);
    }

    private static void noneAtAll() {
        Check.of("promise 3: the first 0 bytes are a TEXT without LINES");
        BeamClocks x = Twins.made(Twins::rich);
        Check.same("text(0)", x.text(0), 0);
        Check.same("no fault", x.fault(0), 0);
        Check.same("no place", x.fault(1), -1);
        Check.same("the tape is empty", x.text(1), -2);
        BeamClocks y = Twins.made(Twins::rich);
        y.text(0);
        Twins.alike("behind text(0)", y, new BeamClocks());
    }

    private static void fewerThanThereAre() {
        Check.of("promise 3: the TAPE's first n bytes (it is empty then)");
        String text = "beam b 1 2;";
        int[][] due = {{0, 0, 0, -1}, {1, -1, 1, 0}, {2, -1, 1, 0}, {3, -1, 1, 0}, {4, -1, 1, 4}, {5, -1, 1, 5},
            {6, -1, 1, 6}, {7, -1, 1, 7}, {8, -1, 1, 8}, {9, -1, 1, 9}, {10, -1, 1, 10}, {11, 1, 0, -1}};
        for (int[] row : due) {
            BeamClocks x = new BeamClocks();
            Check.feed(x, text);
            Check.same("text(" + row[0] + ") of " + text, x.text(row[0]), row[1]);
            Check.same("its fault", x.fault(0), row[2]);
            Check.same("its place", x.fault(1), row[3]);
            Check.same("the tape is empty", x.text(1), -2);
            Check.same("feed", x.feed(0, 0, 0, 0, 0), 20);
        }
    }

    private static void allElseStaysWithAFault() {
        Check.of("promise 3: NONE with a FAULT, all else stays");
        // the tape is empty and the fault is the same on both sides, so that all else can be seen alike
        Twins.Calls emptied = x -> {
            Check.tell(x, WIDE);
            x.steps(9);
            x.keep();
            x.steps(5);
            x.hang(0, 1, 30);
            x.stop(3);
            x.heard(3, -1, false);
            x.heard(4, 2, true);
            x.known(1);
            Check.tell(x, "wall 100;");
        };
        Twins.unchanged("wall 100;", emptied, x -> Check.tell(x, "wall 100;"), -1);
        String late = "beam q 1 1;clock r q 0 1 1;law go 1;law lose 2;wall 9;may n hang r q 7;";
        Twins.Calls faulty = x -> {
            emptied.on(x);
            Check.tell(x, late + "wall 1;");
        };
        Twins.unchanged("a fault in the last line", faulty, x -> Check.tell(x, late + "wall 1;"), -1);
        BeamClocks x = Twins.made(Twins::rich);
        x.text(0);
        Check.same("a fault empties the tape", Check.tell(x, "wall"), -1);
        Check.same("its place", x.fault(1), 4);
        Check.same("feed", x.feed(0, 0, 0, 0, 0), 20);
    }

    private static void allIsAsNewBehindAText() {
        Check.of("promise 3: STEP 0 is next, all hung as told, nothing HEARD, all KNOWN, no IMAGE, nothing to undo then");
        String[] texts = {WIDE, "beam b 50 4;" + NARROW, ONE_CLOCK, "wall 3;", ""};
        for (String first : texts) {
            for (String second : texts) {
                BeamClocks x = new BeamClocks();
                Check.tell(x, first);
                Check.tell(x, first);
                x.steps(40);
                x.keep();
                x.hang(0, 0, 17);
                x.stop(1);
                x.heard(8, -1, true);
                x.heard(9, -1, true);
                x.known(1);
                x.least(1, 30, 0, 0);
                x.order(60, 5, 200, 0);
                x.chance(7, 20, 9);
                x.tried(2, 0, 30, 0);
                Check.tell(x, second);
                BeamClocks y = new BeamClocks();
                Check.tell(y, second);
                Twins.alike("\"" + second + "\" behind \"" + first + "\"", x, y);
            }
        }
    }

    private static void defaultsComeBack() {
        Check.of("promise 3: what a TEXT doesn't tell is as without it, whatever the one ahead told");
        BeamClocks x = new BeamClocks();
        // more than once, and with a faulty one, so that whatever place a text is read into has held all this
        for (int i = 0; i < 3; i++) {
            String all = "beam b 9 1;beam c 9 1;wall 44;law lose 100;law go 77;"
                    + "clock x b 0 1 10 phase 5 drive 6 swing 7 start 8;clock y c 0 1 10;may m hang x b 5;";
            Check.tell(x, all);
            Check.tell(x, all + "#");
        }
        Check.tell(x, "beam b 9 1;beam c 9 1;clock x b 0 1 10;clock y c 0 1 10;may m;");
        Check.same("wall 0", x.reach(0, 1), 0);
        Check.same("phase 0", Check.look(x, 0, 4), 0);
        Check.same("swing 500", Check.look(x, 0, 5), 500);
        Check.same("knots", x.count(3), 0);
        x.steps(1);
        Check.same("start 0, no go", Check.look(x, 0, 4), 10);
        Check.same("no drive, no loss", Check.look(x, 0, 5), 500);
        x.heard(99, 0, true);
        Check.same("the may hangs none", x.fits(), 3);
    }

    private static void howManyLines() {
        Check.of("promise 3: how many LINES");
        Check.fine("", 0);
        Check.fine(" \n", 0);
        Check.fine("wall 1;", 1);
        StringBuilder all = new StringBuilder("wall 1;law lose 1;law go 1;");
        for (int i = 0; i < 3; i++) {
            all.append("beam ").append((char) ('a' + i)).append(" 0 0;");
        }
        for (int i = 0; i < 6; i++) {
            all.append("clock ").append((char) ('a' + i)).append(" a ").append(i).append(" 1 1;");
        }
        for (int i = 0; i < 4; i++) {
            all.append("may ").append((char) ('a' + i)).append(";");
        }
        Check.fine(all.toString(), 16);
    }
}
