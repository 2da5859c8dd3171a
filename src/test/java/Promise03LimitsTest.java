/** Promise 3: what a TEXT may have at most and at least, and FAULT 2. */
public final class Promise03LimitsTest {
    private static final String ONE_BEAM = "beam b 0 0;";
    private static final String ONE_CLOCK = "beam b 0 0;clock x b 0 1 1;";

    public static void main(String[] args) {
        ordinary();
        numbersOfBeams();
        numbersOfClocks();
        numbersThatMayFollow();
        numbersOfWallsMaysAndLaws();
        numbersAsTheyAreTold();
        threeBeams();
        sixClocks();
        fourMays();
        eightOpen();
        sixtyFourKnots();
        limitsBeginAnew();
        Check.end();
    }

    private static void ordinary() {
        Check.refused("beam b 100 0;#", 2, 7);
        Check.refused("beam b 0 99999999999999999999;", 2, 9);
        Check.refused("beam a 0 0;beam b 0 0;beam c 0 0;beam d 0 0;", 2, 33);
        StringBuilder clocks = new StringBuilder(ONE_BEAM);
        for (int i = 0; i < 6; i++) {
            clocks.append("clock ").append((char) ('p' + i)).append(" b ").append(i).append(" 1 1;");
        }
        Check.fine(clocks.toString(), 7);
        Check.refused(clocks + "clock x y;", 2, clocks.length());
        Check.fine("may a;may b;may c;may d;", 4);
        Check.refused("may a;may b;may c;may d;may a;", 2, 24);
        Check.refused(ONE_BEAM + "clock x b 31 1 1;", 2, 21);
        Check.fine(ONE_BEAM + "clock x b 30 9 99 phase 999 drive 99 swing 999 start 999;", 2);
        Check.refused(ONE_BEAM + "clock x b 0 10 1;", 2, 23);
        Check.refused(ONE_BEAM + "clock x b 0 1 0;", 2, 25);
        Check.refused(ONE_BEAM + "clock x b 0 1 1 drive 100;", 2, 33);
        Check.refused(ONE_BEAM + "clock x b 0 1 1 swing 1000;", 2, 33);
        Check.refused(ONE_BEAM + "clock x b 0 1 1 start 1000;", 2, 33);
        Check.fine("wall 99;", 1);
        Check.refused(ONE_CLOCK + "may m hang x b 31;", 2, 42);
    }

    /** Both ends are taken and what is beyond them isn't, however far, at the number. */
    private static void range(String ahead, int low, int high, String behind, int lines) {
        Check.fine(ahead + low + behind, lines);
        Check.fine(ahead + high + behind, lines);
        Check.fine(ahead + "0".repeat(300) + low + behind, lines);
        Check.fine(ahead + "0".repeat(300) + high + behind, lines);
        if (low > 0) {
            Check.refused(ahead + (low - 1) + behind, 2, ahead.length());
        }
        // numbers that go round in 16, 32 or 64 bits come back within the limits
        for (String beyond : new String[] {"" + (high + 1), "65537", "65536", "2147483648", "4294967296", "4294967297",
            "18446744073709551616", "18446744073709551617", "1" + "0".repeat(64), "9".repeat(300)}) {
            Check.refused(ahead + beyond + behind, 2, ahead.length());
        }
        Check.refused(ahead + "-1" + behind, 1, ahead.length());
    }

    private static void numbersOfBeams() {
        Check.of("BEAMS: GIVE 0 .. 99");
        range("beam b ", 0, 99, " 0;", 1);
        Check.of("BEAMS: STIFF 0 .. 99");
        range("beam b 0 ", 0, 99, ";", 1);
    }

    private static void numbersOfClocks() {
        Check.of("CLOCKS: PLACE 0 .. 30");
        range(ONE_BEAM + "clock x b ", 0, 30, " 1 1;", 2);
        Check.of("CLOCKS: WEIGHT 1 .. 9");
        range(ONE_BEAM + "clock x b 0 ", 1, 9, " 1;", 2);
        Check.of("CLOCKS: SPEED 1 .. 99");
        range(ONE_BEAM + "clock x b 0 1 ", 1, 99, ";", 2);
    }

    private static void numbersThatMayFollow() {
        String ahead = ONE_BEAM + "clock x b 0 1 1 ";
        Check.of("CLOCKS: phase 0 .. 999");
        range(ahead + "phase ", 0, 999, ";", 2);
        Check.of("CLOCKS: drive 0 .. 99");
        range(ahead + "drive ", 0, 99, ";", 2);
        Check.of("CLOCKS: swing 1 .. 999");
        range(ahead + "swing ", 1, 999, ";", 2);
        Check.of("CLOCKS: start 0 .. 999");
        range(ahead + "start ", 0, 999, ";", 2);
        range(ahead + "start 1 swing 1 drive 1 phase ", 0, 999, ";", 2);
    }

    private static void numbersOfWallsMaysAndLaws() {
        Check.of("wall: 0 .. 99");
        range("wall ", 0, 99, ";", 1);
        Check.of("may: a PLACE 0 .. 30");
        range(ONE_CLOCK + "may m hang x b ", 0, 30, ";", 3);
        Check.of("N of E 0 .. 9999");
        range("law lose ", 0, 9999, ";", 1);
        range("law go ", 0, 9999, ";", 1);
        range("law go (not 1 < 2 + ", 0, 9999, " * 3) or 4;", 1);
    }

    private static void numbersAsTheyAreTold() {
        Check.of("CLOCKS: phase (0 without), drive (0), swing (500), start (0); wall 0 without");
        BeamClocks x = Check.told("beam b 99 3;beam c 0 0;clock x b 30 9 99 phase 999 drive 99 swing 1 start 999;"
                + "clock y b 0 1 1 phase 0 drive 0 swing 999 start 0;clock z c 0 1 1;");
        int[][] due = {{0, 30, 9, 99, 999, 1, 0, 0}, {0, 0, 1, 1, 0, 999, 0, 0}, {1, 0, 1, 1, 0, 500, 0, 0}};
        for (int clock = 0; clock < 3; clock++) {
            for (int what = 0; what < 8; what++) {
                Check.same("look(" + clock + ", " + what + ")", Check.look(x, clock, what), due[clock][what]);
            }
        }
        Check.same("99 less 3 times 30", x.reach(0, 1), 9);
        Check.same("no wall", x.reach(0, 2), 0);
        x.steps(999);
        Check.same("start 999: not yet", Check.look(x, 0, 7), 0);
        Check.same("start 0", Check.look(x, 1, 7), 1);
        Check.same("without start", Check.look(x, 2, 7), 1);
        Check.same("without drive", Check.look(x, 2, 5), 500);
        x.steps(1);
        Check.same("start 999: in that step", Check.look(x, 0, 7), 1);
        Check.same("drive 99", Check.look(x, 0, 5), 100);
    }

    private static String rows(String row, int most) {
        StringBuilder text = new StringBuilder();
        for (int i = 0; i < most; i++) {
            text.append(row.replace("#", "" + (char) ('p' + i)).replace("@", "" + i));
        }
        return text.toString();
    }

    private static void threeBeams() {
        Check.of("BEAMS, at most 3; FAULT 2 a fourth beam (at the word of the LINE)");
        String three = rows("beam # 0 0;", 3);
        BeamClocks x = Check.fine(three, 3);
        Check.same("beams", x.count(0), 3);
        Check.same("the third", x.named(0, Check.letters("r")), 2);
        Check.refused(rows("beam # 0 0;", 4), 2, three.length());
        Check.refused(three + "wall 1; \n beam", 2, three.length() + 10);
        Check.refused(three + "beam 1", 2, three.length());
        Check.fine(three + "clock x r 0 1 1;may m hang x r 30;", 5);
    }

    private static void sixClocks() {
        Check.of("CLOCKS, at most 6; FAULT 2 a seventh clock (at the word of the LINE)");
        String six = ONE_BEAM + rows("clock # b @ 1 1;", 6);
        BeamClocks x = Check.fine(six, 7);
        Check.same("clocks", x.count(1), 6);
        Check.same("the sixth", x.named(1, Check.letters("u")), 5);
        Check.refused(ONE_BEAM + rows("clock # b @ 1 1;", 7), 2, six.length());
        Check.refused(six + "law go 1;clock", 2, six.length() + 9);
        Check.refused(six + "clock p", 2, six.length());
        Check.fine(six + "may m" + rows(" hang # b @", 6) + ";", 8);
    }

    private static void fourMays() {
        Check.of("may: at most 4; FAULT 2 a fifth may (at the word of the LINE)");
        String four = rows("may #;", 4);
        BeamClocks x = Check.fine(four, 4);
        Check.same("mays", x.count(2), 4);
        Check.same("the fourth", x.named(2, Check.letters("s")), 3);
        Check.refused(rows("may #;", 5), 2, four.length());
        Check.refused(four + "wall 1;may", 2, four.length() + 7);
        Check.refused(four + "may p", 2, four.length());
    }

    private static void eightOpen() {
        Check.of("FAULT 2: a ninth '(' open");
        for (String kind : new String[] {"lose", "go"}) {
            String law = "law " + kind + " ";
            Check.fine(law + "(".repeat(8) + "1" + ")".repeat(8) + ";", 1);
            Check.refused(law + "(".repeat(9) + "1" + ")".repeat(9) + ";", 2, law.length() + 8);
            Check.refused(law + "(".repeat(8) + "not (1", 2, law.length() + 12);
            Check.refused(law + "(".repeat(8) + "1+(1", 2, law.length() + 10);
            // what is closed is open no more
            Check.fine(law + "(".repeat(7) + "(1)+(1)*(1)" + ")".repeat(7) + ";", 1);
            Check.fine(law + "(1)+".repeat(12) + "(".repeat(8) + "1" + ")".repeat(8) + ";", 1);
            Check.refused(law + "(1)+".repeat(12) + "(".repeat(9) + "1", 2, law.length() + 56);
        }
        Check.fine("law go " + "(".repeat(8) + "1" + ")".repeat(8) + ";law lose " + "(".repeat(8) + "1" + ")".repeat(8)
                + ";", 2);
        Check.refused("law go " + "(".repeat(8) + "1" + ")".repeat(7) + ";", 1, 23);
        Check.refused("law go " + "(".repeat(8) + "1" + ")".repeat(9) + ";", 1, 24);
    }

    private static void sixtyFourKnots() {
        Check.of("FAULT 2: a 65th KNOT of all E (N, NAMES, signs, not, and, or: one each)");
        String[] values = {"1", "speed", "swing", "pull", "weight", "place", "step", "count"};
        String[] signs = {"+", "-", "*", "/", "<", "<=", "=", "<>", ">=", ">", " and ", " or "};
        String e63 = "1" + "+1".repeat(31);
        for (String value : values) {
            Check.same("one knot: " + value, Check.fine("law go " + value + ";", 1).count(3), 1);
            String ahead = "law go " + e63 + ";law lose ";
            Check.same("64 with " + value, Check.fine(ahead + value + ";", 2).count(3), 64);
            Check.refused("law go not " + e63 + ";law lose " + value + ";", 2, 7 + 4 + 63 + 10);
        }
        for (String sign : signs) {
            Check.same("three knots:" + sign, Check.fine("law go 1" + sign + "2;", 1).count(3), 3);
            // a not and 61 are 62: a value and the sign are the 63rd and the 64th
            String ahead = "law go not 1" + "+1".repeat(30) + ";law lose 1";
            Check.refused(ahead + sign + "2;", 2, ahead.length() + sign.length());
            String full = "law go not 1" + "+1".repeat(30) + ";law lose not 1";
            Check.refused(full + " " + sign.trim() + " 2;", 2, full.length() + 1);
            Check.same("64, the sign is not the last", Check.fine(
                    "law go 1" + "+1".repeat(30) + ";law lose 1" + sign + "2;", 2).count(3), 64);
        }
        Check.same("64 nots and a value are 65: the value is", Check.told("law go " + "not ".repeat(63) + "1;").count(3), 64);
        Check.refused("law go " + "not ".repeat(64) + "1;", 2, 7 + 4 * 64);
        Check.refused("law go " + "not ".repeat(65) + "1;", 2, 7 + 4 * 64);
        Check.same("brackets are none", Check.told("law go ((not (" + e63 + ")));").count(3), 64);
        Check.same("no E, no knots", Check.told(ONE_CLOCK).count(3), 0);
    }

    private static void limitsBeginAnew() {
        Check.of("FAULT 2: what is too much is counted anew in each TEXT");
        String full = rows("beam # 0 0;", 3) + rows("clock # p @ 1 1;", 6) + rows("may #;", 4) + "wall 1;law go not 1"
                + "+1".repeat(31) + ";";
        BeamClocks x = new BeamClocks();
        for (int i = 0; i < 3; i++) {
            Check.same("a full text", Check.tell(x, full), 15);
            Check.same("with one beam more", Check.tell(x, full + "beam a 0 0;"), -1);
            Check.same("too much", x.fault(0), 2);
            Check.same("there", x.fault(1), full.length());
            Check.same("with one knot more", Check.tell(x, full + "law lose 1;"), -1);
            Check.same("too much", x.fault(0), 2);
            Check.same("there", x.fault(1), full.length() + 9);
            Check.same("knots of the one that stands", x.count(3), 64);
        }
    }
}
