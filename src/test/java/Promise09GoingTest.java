/** Promise 9: how SWING, PHASE and COUNT go in a STEP, with their ends. */
public final class Promise09GoingTest {
    public static void main(String[] args) {
        lawsInSteps();
        bounds();
        swing999AtMost();
        swing0IsStopped();
        loseIsCut();
        goIsCut();
        byWhatItGoes0To499();
        pullCutTowards0();
        aStrokeFrom1000On();
        stoppedForGood();
        Check.end();
    }

    private static void swing(String law, String extras, int want, int state) {
        BeamClocks x = Check.told("beam b 0 0;" + law + "clock x b 0 1 10 " + extras + ";");
        x.steps(1);
        Check.same("swing by " + law + extras, Check.look(x, 0, 5), want);
        Check.same("state by " + law + extras, Check.look(x, 0, 7), state);
        Check.same("phase by " + law + extras, Check.look(x, 0, 4), state == 2 ? 0 : 10);
    }

    private static void lawsInSteps() {
        swing("", "", 500, 1);
        swing("", "drive 7", 507, 1);
        swing("", "swing 990 drive 99", 999, 1);
        swing("law lose 100;", "", 400, 1);
        swing("law lose 100;", "drive 1", 401, 1);
        swing("law lose 499;", "", 1, 1);
        swing("law lose 500;", "", 0, 2);
        swing("law lose 600;", "", 0, 2);
        swing("law lose 600;", "drive 99", 0, 2);
        swing("law lose 9999;", "swing 999 drive 99", 99, 1);
        swing("law lose 0-50;", "", 500, 1);
        swing("law lose 1/0;", "", 500, 1);
        swing("law lose swing;", "drive 7", 7, 1);
        swing("law lose swing;", "", 0, 2);
        swing("law lose speed + weight + place + step + count;", "", 489, 1);
        BeamClocks x = Check.told("beam b 0 0;law lose 100;law go swing / 10;clock x b 0 1 1 drive 50;");
        x.steps(1);
        Check.same("go's swing is the one behind the loss", Check.look(x, 0, 4), 45);
        x.steps(1);
        Check.same("and the next", Check.look(x, 0, 4), 85);
        x.steps(8);
        Check.same("500 less 10 times 50", Check.look(x, 0, 7), 2);
        x.steps(5);
        Check.same("it goes no more", x.was(0, 14), x.was(0, 8));
        BeamClocks y = Check.told("beam b 0 0;law go step + count * 10;clock x b 0 1 1 phase 999;clock y b 1 1 1 start 2;");
        y.steps(1);
        Check.same("step 0, count 0", Check.look(y, 0, 4), 999);
        y.steps(1);
        Check.same("step 1: a stroke", Check.look(y, 0, 4), 0);
        Check.same("its count", Check.look(y, 0, 6), 1);
        y.steps(1);
        Check.same("step 2, count 1", Check.look(y, 0, 4), 12);
        Check.same("step 2 of the other", Check.look(y, 1, 4), 2);
        // pull: 9 * 99 * 250 by 1000 is 222; the other way -24 of -24750
        BeamClocks z = Check.told("beam b 99 0;law go pull / 10 + 50;clock x b 0 1 1;clock y b 1 9 1 phase 250;");
        z.steps(1);
        Check.same("pull by 1000 in go's E", Check.look(z, 0, 4), 22 + 50 + 222);
        Check.same("pull by 1000 below 0", Check.look(z, 1, 4), 250 - 2 + 50 - 2);
    }

    private static void bounds() {
        StringBuilder text = new StringBuilder("beam b 99 0;clock x b 0 1 10 phase 600;");
        for (int i = 1; i < 6; i++) {
            text.append("clock ").append((char) ('p' + i)).append(" b ").append(i).append(" 9 10 phase 850;");
        }
        BeamClocks x = Check.told(text.toString());
        x.steps(1);
        Check.same("499 at most: a stroke", Check.look(x, 0, 4), 99);
        Check.same("its count", Check.look(x, 0, 6), 1);
        Check.same("cut towards 0: -24750 by 9000", Check.look(x, 1, 4), 858);
        BeamClocks y = Check.told(text.toString().replace("phase 600", "phase 100").replace("850", "850"));
        y.steps(1);
        Check.same("0 at least", Check.look(y, 0, 4), 100);
        BeamClocks z = Check.told("beam b 0 0;clock x b 0 1 99 phase 901;clock y b 1 1 98 phase 901;");
        z.steps(1);
        Check.same("1000 is a stroke", Check.look(z, 0, 6), 1);
        Check.same("999 is none", Check.look(z, 1, 6), 0);
    }

    private static void swing999AtMost() {
        Check.of("==== 2: SWING 999 at most");
        swing("", "swing 900 drive 98", 998, 1);
        swing("", "swing 900 drive 99", 999, 1);
        swing("", "swing 901 drive 99", 999, 1);
        swing("", "swing 999 drive 99", 999, 1);
        swing("", "swing 999", 999, 1);
        // drive and loss are one sum: 999 and 99 less 100
        swing("law lose 100;", "swing 999 drive 99", 998, 1);
        swing("law lose 99;", "swing 999 drive 99", 999, 1);
        swing("law lose 98;", "swing 999 drive 99", 999, 1);
    }

    private static void swing0IsStopped() {
        Check.of("==== 2: SWING 0 at least; with 0 it is STOPPED");
        swing("law lose 1;", "swing 2", 1, 1);
        swing("law lose 1;", "swing 1", 0, 2);
        swing("law lose 2;", "swing 1", 0, 2);
        swing("law lose 1;", "swing 1 drive 1", 1, 1);
        swing("law lose 2;", "swing 1 drive 1", 0, 2);
        swing("law lose 999;", "swing 999", 0, 2);
        swing("law lose 998;", "swing 999", 1, 1);
        swing("law lose 999;", "swing 999 drive 1", 1, 1);
        swing("law lose 999;", "swing 900 drive 99", 0, 2);
    }

    private static void loseIsCut() {
        Check.of("==== 2: lose's E (0 .. 999; 0 without such a law, with an ERROR)");
        swing("law lose 999;", "swing 999 drive 50", 50, 1);
        swing("law lose 1000;", "swing 999 drive 50", 50, 1);
        swing("law lose 9999*9999;", "swing 999 drive 50", 50, 1);
        swing("law lose 0;", "", 500, 1);
        swing("law lose 0-1;", "", 500, 1);
        swing("law lose 0-9999*9999;", "", 500, 1);
        swing("law lose 1/0;", "drive 3", 503, 1);
        swing("law lose 9999*9999*9999*9999;", "drive 3", 503, 1);
        swing("", "drive 3", 503, 1);
        swing("law go 10;", "drive 3", 503, 1);
    }

    /** By how much one alone goes in its first step. */
    private static void goes(String law, int speed, int want) {
        BeamClocks x = Check.told("beam b 0 0;" + law + "clock x b 0 1 " + speed + ";");
        x.steps(1);
        Check.same("it goes by " + law + " at speed " + speed, Check.look(x, 0, 4), want);
    }

    private static void goIsCut() {
        Check.of("==== 2: go's E (0 .. 99; SPEED without, with an ERROR)");
        goes("", 1, 1);
        goes("", 99, 99);
        goes("law lose 5;", 7, 7);
        goes("law go 98;", 7, 98);
        goes("law go 99;", 7, 99);
        goes("law go 100;", 7, 99);
        goes("law go 9999*9999;", 7, 99);
        goes("law go 1;", 7, 1);
        goes("law go 0;", 7, 0);
        goes("law go 0-1;", 7, 0);
        goes("law go 0-9999*9999;", 7, 0);
        goes("law go 1/0;", 7, 7);
        goes("law go 1/0;", 99, 99);
        goes("law go 9999*9999*9999*9999;", 7, 7);
    }

    /** x with a law of its own for go, drawn by y that stands still, with 1000 give times weight times lean. */
    private static void drawn(int go, int weight, int give, int lean, int want) {
        BeamClocks x = Check.told("beam b " + give + " 0;law go (place = 0) * " + go + ";clock x b 0 1 1 phase 300;"
                + "clock y b 1 " + weight + " 1 phase " + (300 + lean) + ";");
        x.steps(1);
        Check.same("go " + go + " with pull " + weight * give * lean, Check.look(x, 0, 4) - 300, want);
    }

    private static void byWhatItGoes0To499() {
        Check.of("==== 2: go's E and PULL by (1000 WEIGHT): 0 at least, 499 at most");
        drawn(5, 1, 20, -250, 0);
        drawn(5, 1, 24, -250, 0);
        drawn(6, 1, 20, -250, 1);
        drawn(4, 1, 20, -250, 0);
        drawn(0, 1, 20, -250, 0);
        drawn(0, 1, 20, 250, 5);
        drawn(99, 9, 99, -250, 0);
        drawn(99, 9, 99, 250, 99 + 222);
        // with two that draw: 2 * 9 * 90 * 250 are 405
        for (int go : new int[] {93, 94, 95, 99}) {
            BeamClocks x = Check.told("beam b 90 0;law go (place = 0) * " + go + ";clock x b 0 1 1 phase 300;"
                    + "clock y b 1 9 1 phase 550;clock z b 2 9 1 phase 550;");
            x.steps(1);
            Check.same("go " + go + " and 405", Check.look(x, 0, 4) - 300, go <= 94 ? go + 405 : 499);
        }
    }

    private static void pullCutTowards0() {
        Check.of("==== 2: PULL by (1000 WEIGHT), cut towards 0");
        drawn(50, 1, 4, 249, 50);
        drawn(50, 1, 4, 250, 51);
        drawn(50, 1, 4, -249, 50);
        drawn(50, 1, 4, -250, 49);
        drawn(50, 1, 9, 111, 50);
        drawn(50, 1, 9, -111, 50);
        drawn(50, 9, 9, 111, 58);
        drawn(50, 1, 8, -249, 49);
        drawn(50, 1, 8, -250, 48);
        for (int weight = 1; weight <= 9; weight++) {
            // pull of x: 99 * 200, by 1000 and its own weight
            BeamClocks x = Check.told("beam b 99 0;law go (place = 0) * 50;clock x b 0 " + weight
                    + " 1 phase 300;clock y b 1 1 1 phase 100;");
            x.steps(1);
            Check.same("of weight " + weight, Check.look(x, 0, 4), 350 - 19800 / (1000 * weight));
        }
    }

    private static void aStrokeFrom1000On() {
        Check.of("==== 2: from 1000 on PHASE is 1000 less: a STROKE, COUNT one more");
        int[][] due = {{900, 99, 999, 0}, {901, 99, 0, 1}, {902, 99, 1, 1}, {999, 1, 0, 1}, {998, 1, 999, 0},
            {999, 99, 98, 1}, {0, 99, 99, 0}};
        for (int[] row : due) {
            BeamClocks x = Check.told("beam b 0 0;clock x b 0 1 " + row[1] + " phase " + row[0] + ";");
            x.steps(1);
            Check.same(row[0] + " and " + row[1], Check.look(x, 0, 4), row[2]);
            Check.same("count of " + row[0] + " and " + row[1], Check.look(x, 0, 6), row[3]);
            Check.same("stroke of " + row[0] + " and " + row[1], x.stroke(0, 0), row[3] == 1 ? 0 : -2);
        }
        // the farthest: 999 and 499
        BeamClocks x = Check.told("beam b 99 0;clock x b 0 1 99 phase 999;clock y b 1 9 1 phase 249;clock z b 2 9 1 phase 249;");
        x.steps(1);
        Check.same("999 and 499", Check.look(x, 0, 4), 498);
        Check.same("one stroke", Check.look(x, 0, 6), 1);
    }

    private static void stoppedForGood() {
        Check.of("==== 2: STOPPED for good, goes no more");
        BeamClocks x = Check.told("beam b 90 0;law lose (step = 2) * 999;clock x b 0 1 50 drive 99 start 1;"
                + "clock y b 1 9 50 phase 200 drive 99 start 3;");
        x.steps(3);
        Check.same("stopped in step 2", Check.look(x, 0, 7), 2);
        Check.same("where it was", Check.look(x, 0, 4), 50);
        x.steps(50);
        Check.same("no drive starts it", Check.look(x, 0, 5), 0);
        Check.same("none pulls it", Check.look(x, 0, 4), 50);
        Check.same("the other runs, unpulled", Check.look(x, 1, 4), (200 + 50 * 50) % 1000);
    }
}
