/** Promise 36: count. */
public final class Promise36CountTest {
    public static void main(String[] args) {
        ordinary();
        anotherWhat();
        fromNoneToFull();
        byHowManyItIsKnown();
        howManyRun();
        allCounts();
        onlyAsked();
        Check.end();
    }

    private static void ordinary() {
        BeamClocks x = Check.told("beam a 0 0;beam b 0 0;law go speed + 1;clock x a 0 1 99;clock y a 1 1 49;"
                + "clock z b 1 1 9 start 30;may m;");
        x.steps(20);
        x.heard(1, 1, true);
        x.heard(1, 2, true);
        x.known(1);
        x.stop(0);
        // go's E is 99 at most: x strikes once by then, y as well
        int[] want = {2, 3, 1, 3, 20, 2, 1, 1, 1, 2};
        for (int what = 0; what <= 9; what++) {
            Check.same("count(" + what + ")", x.count(what), want[what]);
        }
        Check.same("count(10)", x.count(10), -1);
        Check.same("count(-1)", x.count(-1), -1);
    }

    private static void anotherWhat() {
        Check.of("promise 36: NONE for another what");
        for (BeamClocks x : new BeamClocks[] {new BeamClocks(), Twins.made(Twins::rich)}) {
            Check.yes("what 0", x.count(0) >= 0);
            Check.yes("what 9", x.count(9) >= 0);
            Check.same("what 10", x.count(10), -1);
            Check.same("what -1", x.count(-1), -1);
            for (int far : Twins.FAR) {
                Check.same("what " + far, x.count(far), -1);
            }
        }
        Twins.unchanged("count(10)", x -> x.count(10), -1);
        Twins.unchanged("count(-1)", x -> x.count(-1), -1);
    }

    private static void fromNoneToFull() {
        Check.of("promise 36: 0 BEAMS, 1 CLOCKS, 2 MAY, 3 KNOTS, 4 the STEP that is next, 5 HEARD, 7 what can be undone");
        StringBuilder text = new StringBuilder("law go not 1" + "+1".repeat(31) + ";");
        for (int i = 0; i < 3; i++) {
            text.append("beam ").append((char) ('p' + i)).append(" 0 0;");
        }
        for (int i = 0; i < 6; i++) {
            text.append("clock ").append((char) ('p' + i)).append(" p ").append(i).append(" 1 1;");
        }
        for (int i = 0; i < 4; i++) {
            text.append("may ").append((char) ('p' + i)).append(';');
        }
        BeamClocks x = Check.told(text.toString());
        for (int i = 0; i < 4; i++) {
            x.steps(1000);
        }
        for (int i = 0; i < 41; i++) {
            x.heard(i, -1, false);
        }
        for (int i = 0; i < 21; i++) {
            x.hang(0, 1, i);
        }
        int[] full = {3, 6, 4, 64, 4000, 40, 40, 20};
        for (int what = 0; what < full.length; what++) {
            Check.same("what " + what, x.count(what), full[what]);
            Check.same("what " + what + " of a new object", new BeamClocks().count(what), 0);
        }
    }

    private static void byHowManyItIsKnown() {
        Check.of("promise 36: 6 by how many it is KNOWN (by all: how many there are)");
        BeamClocks x = new BeamClocks();
        for (int i = 0; i < 3; i++) {
            Check.same("by all", x.count(6), i);
            x.heard(i, -1, false);
        }
        for (int n = 3; n >= 0; n--) {
            x.known(n);
            Check.same("by " + n, x.count(6), n);
        }
        x.heard(9, -1, false);
        Check.same("by 0 still", x.count(6), 0);
        x.known(-1);
        Check.same("by all again", x.count(6), 4);
        // a struck one is still one of these
        x.strike(0);
        Check.same("by all with a strike", x.count(6), 5);
    }

    private static void howManyRun() {
        Check.of("promise 36: 8 how many RUN");
        BeamClocks x = Check.told("beam b 0 0;law lose (place = 5) * 250;clock p b 0 1 1;clock q b 1 1 1;clock r b 2 1 1 start 2;"
                + "clock s b 3 1 1 start 2;clock t b 4 1 1 start 9;clock u b 5 1 1;");
        int[] due = {0, 3, 2, 4, 4};
        for (int step = 0; step < due.length; step++) {
            Check.same("with step " + step + " next", x.count(8), due[step]);
            x.steps(1);
        }
        x.stop(0);
        Check.same("one stopped", x.count(8), 3);
        x.stop(4);
        Check.same("one that doesn't run stopped", x.count(8), 3);
        x.steps(10);
        Check.same("it isn't started", x.count(8), 3);
    }

    private static void allCounts() {
        Check.of("promise 36: 9 all COUNTS");
        StringBuilder text = new StringBuilder("beam b 0 0;law go 99;");
        for (int i = 0; i < 6; i++) {
            text.append("clock ").append((char) ('p' + i)).append(" b ").append(i).append(" 1 1;");
        }
        BeamClocks x = Check.told(text.toString());
        Check.same("none yet", x.count(9), 0);
        for (int i = 1; i <= 4; i++) {
            x.steps(1000);
            Check.same("by " + 1000 * i, x.count(9), 6 * 99 * i);
        }
        x.stop(0);
        Check.same("those of one stopped count too", x.count(9), 6 * 99 * 4);
        Check.tell(x, text.toString());
        Check.same("none behind a text", x.count(9), 0);
    }

    private static void onlyAsked() {
        Check.of("promise 36: it is only asked");
        for (int what = 0; what <= 9; what++) {
            int w = what;
            Twins.unchanged("count(" + what + ")", x -> x.count(w), Twins.made(Twins::rich).count(w));
        }
    }
}
