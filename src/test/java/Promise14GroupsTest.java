/** Promise 14: groups. */
public final class Promise14GroupsTest {
    private static final String SIX = "beam b 0 0;law go 0;clock p b 0 1 1;clock q b 1 1 1 phase 100;clock r b 2 1 1 phase 200;"
            + "clock s b 3 1 1 phase 700;clock t b 4 1 1 phase 500;clock u b 5 1 1 phase 999;";

    public static void main(String[] args) {
        byEveryN();
        noneRuns();
        onlyThoseThatRun();
        noSuchN();
        Check.end();
    }

    private static void byEveryN() {
        Check.of("==== 2: GROUPS by n: two IN STEP are in one, and so on from one to the next");
        BeamClocks x = Check.told(SIX);
        x.steps(1);
        // 0 100 200 500 700 999: gaps of 100, 100, 300, 200, 299 and 1
        int[][] due = {{0, 6}, {1, 5}, {99, 5}, {100, 3}, {199, 3}, {200, 2}, {298, 2}, {299, 1}, {300, 1}, {499, 1}, {500, 1}};
        for (int[] row : due) {
            Check.same("groups(" + row[0] + ")", x.groups(row[0]), row[1]);
        }
        BeamClocks same = Check.told("beam b 0 0;clock p b 0 1 1;clock q b 1 1 1;");
        same.steps(1);
        Check.same("0 apart by 0", same.groups(0), 1);
        BeamClocks against = Check.told("beam b 0 0;clock p b 0 1 1;clock q b 1 1 1 phase 500;");
        against.steps(1);
        Check.same("500 apart by 499", against.groups(499), 2);
        Check.same("500 apart by 500", against.groups(500), 1);
    }

    private static void noneRuns() {
        Check.of("promise 14: how many, of CLOCKS that RUN: none");
        BeamClocks x = Check.told(SIX);
        Check.same("not started", x.groups(500), 0);
        Check.same("not started", x.groups(0), 0);
        x.steps(1);
        for (int clock = 0; clock < 6; clock++) {
            x.stop(clock);
        }
        Check.same("all stopped", x.groups(500), 0);
        x.undo();
        Check.same("one runs again", x.groups(0), 1);
    }

    private static void onlyThoseThatRun() {
        Check.of("==== 2: GROUPS by n: of CLOCKS that RUN");
        BeamClocks x = Check.told(SIX);
        x.steps(1);
        x.stop(1);
        Check.same("one that joins two is stopped", x.groups(100), 4);
        Check.same("by 200 they are joined", x.groups(200), 2);
        x.stop(5);
        Check.same("another one at an end", x.groups(299), 2);
        Check.same("300 joins", x.groups(300), 1);
    }

    private static void noSuchN() {
        Check.of("promise 14: NONE: no such n");
        BeamClocks x = Check.told(SIX);
        Check.same("-1, none runs", x.groups(-1), -1);
        Check.same("501, none runs", x.groups(501), -1);
        x.steps(1);
        Check.same("-1", x.groups(-1), -1);
        Check.same("501", x.groups(501), -1);
        for (int far : Twins.FAR) {
            Check.same("" + far, x.groups(far), -1);
        }
        Twins.unchanged("groups(-1)", y -> y.groups(-1), -1);
        Twins.unchanged("groups(501)", y -> y.groups(501), -1);
    }
}
