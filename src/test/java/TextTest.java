/** Promises 1 to 5: a new object, feed, text with all its faults, fault, named; and what an E is worth. */
public final class TextTest {
    private static final String ONE_BEAM = "beam b 0 0;";
    private static final String ONE_CLOCK = "beam b 0 0;clock x b 0 1 1;";

    public static void main(String[] args) {
        promise1();
        promise2();
        promise3();
        promise3Words();
        promise3Limits();
        promise3Told();
        promise3Expressions();
        promise4();
        promise5();
        expressions();
        Check.end();
    }

    private static void promise1() {
        BeamClocks x = new BeamClocks();
        for (int what = 0; what <= 9; what++) {
            Check.same("count(" + what + ") of a new object", x.count(what), 0);
        }
        Check.same("text(1) of an empty tape", x.text(1), -2);
        Check.same("text(0) of an empty tape", x.text(0), 0);
        Check.same("look at none", Check.look(x, 0, 0), 1000000);
        Check.same("fits of nothing", x.fits(), 1);
        Check.same("back without an image", x.back(), -1);
    }

    private static void promise2() {
        BeamClocks x = new BeamClocks();
        for (int i = 1; i <= 35; i++) {
            Check.same("feed " + i, x.feed(0, 0, 0, 0, 0), 20 * i);
        }
        Check.same("the 36th feed", x.feed(0, 0, 0, 0, 0), -1);
        Check.same("text(701)", x.text(701), -2);
        Check.same("text(700)", x.text(700), -1);
        Check.same("the tape is empty", x.feed(0, 0, 0, 0, 0), 20);
        BeamClocks y = new BeamClocks();
        // "wall", " 7; ", then what is beyond n
        y.feed(0x77616c6c, 0x20373b20, -1, -1, -1);
        Check.same("four bytes of each number, the highest first", y.text(8), 1);
    }

    private static void promise3() {
        BeamClocks x = new BeamClocks();
        Check.feed(x, ONE_CLOCK);
        Check.same("text(-1)", x.text(-1), -2);
        Check.same("text(41)", x.text(41), -2);
        Check.same("text() of both lines, the tape stayed", x.text(ONE_CLOCK.length()), 2);
        Check.same("beams", x.count(0), 1);
        Check.same("text(1), the tape is empty now", x.text(1), -2);
        x.steps(5);
        x.hang(0, 0, 9);
        x.heard(0, 0, true);
        x.known(0);
        x.keep();
        Check.same("a faulty text", Check.tell(x, "wall 100;"), -1);
        Check.same("all else stays: step", x.count(4), 5);
        Check.same("all else stays: heard", x.count(5), 1);
        Check.same("all else stays: known", x.count(6), 0);
        Check.same("all else stays: undo", x.count(7), 1);
        Check.same("all else stays: clock", Check.look(x, 0, 1), 9);
        Check.same("all else stays: image", x.back(), 5);
        Check.same("the tape is empty behind a fault", x.feed(0, 0, 0, 0, 0), 20);
        x.text(20);
        Check.same("the same text anew", Check.tell(x, ONE_CLOCK), 2);
        Check.same("step 0 is next", x.count(4), 0);
        Check.same("hung as told", Check.look(x, 0, 1), 0);
        Check.same("nothing heard", x.count(5), 0);
        x.heard(1, -1, false);
        Check.same("all known", x.count(6), 1);
        Check.same("nothing to undo", x.undo(), -1);
        Check.same("no image", x.back(), -1);
        Check.same("an empty text", Check.tell(x, " \n "), 0);
        Check.same("no clocks then", x.count(1), 0);
        Check.same("no beams then", x.count(0), 0);
    }

    /** What the tape has behind the first n bytes is no part of the text. */
    private static void cut(String tape, int n, int fault, int place) {
        BeamClocks x = new BeamClocks();
        Check.feed(x, tape);
        Check.same("text(" + n + ") of " + tape, x.text(n), -1);
        Check.same("its fault", x.fault(0), fault);
        Check.same("its place", x.fault(1), place);
    }

    private static void fine(String text, int lines) {
        BeamClocks x = new BeamClocks();
        Check.same("text \"" + text + "\"", Check.tell(x, text), lines);
        Check.same("no fault of it", x.fault(0), 0);
        Check.same("no place of it", x.fault(1), -1);
    }

    private static void promise3Words() {
        Check.refused(";", 1, 0);
        cut("wall 12;", 6, 1, 6);
        cut("law go 1 <= 2;", 10, 1, 10);
        cut("law go 1 < 2;", 11, 1, 11);
        cut("wall;", 3, 1, 0);
        cut("wall 1;", 6, 1, 6);
        Check.refused("beam", 1, 4);
        Check.refused("beam b", 1, 6);
        Check.refused("beam b 1 1", 1, 10);
        Check.refused("beam b 1 1 \n", 1, 12);
        Check.refused("beam abcdefg 1 1;", 1, 5);
        fine("beam abcdef 1 1;", 1);
        Check.refused("beam step 1 1;", 1, 5);
        Check.refused("beam weight 1 1;", 1, 5);
        Check.refused("beam B 1 1;", 1, 5);
        Check.refused("beam b 1\t1;", 1, 8);
        Check.refused("beam b 1 1 1;", 1, 11);
        Check.refused("beam b 11;", 1, 9);
        Check.refused("beam 1 1;", 1, 5);
        Check.refused("beams b 1 1;", 1, 0);
        fine("beam b1 1;", 1);
        fine("beam\nb\n1\n1\n;\n", 1);
        fine("beam b 007 0000000000000000000000099;", 1);
        fine("", 0);
        Check.refused("b", 1, 0);
        Check.refused("beam b 1 1;\u00e9", 1, 11);
        Check.refused("law beam 1;", 1, 4);
        Check.refused("clock;", 1, 5);
        Check.refused(ONE_BEAM + "clock x b 0 1 1 weight 1;", 1, 27);
        Check.refused(ONE_CLOCK + "may;", 1, 30);
        Check.refused(ONE_CLOCK + "may m hang;", 1, 37);
        Check.refused(ONE_CLOCK + "may m hang x;", 1, 39);
        Check.refused(ONE_CLOCK + "may m hang x b;", 1, 41);
        Check.refused(ONE_CLOCK + "may m x b 1;", 1, 33);
        Check.refused(ONE_CLOCK + "hang x b 1;", 1, 27);
    }

    private static void promise3Limits() {
        Check.refused("beam b 100 0;#", 2, 7);
        Check.refused("beam b 0 99999999999999999999;", 2, 9);
        Check.refused("beam a 0 0;beam b 0 0;beam c 0 0;beam d 0 0;", 2, 33);
        StringBuilder clocks = new StringBuilder(ONE_BEAM);
        for (int i = 0; i < 6; i++) {
            clocks.append("clock ").append((char) ('p' + i)).append(" b ").append(i).append(" 1 1;");
        }
        fine(clocks.toString(), 7);
        Check.refused(clocks + "clock x y;", 2, clocks.length());
        fine("may a;may b;may c;may d;", 4);
        Check.refused("may a;may b;may c;may d;may a;", 2, 24);
        Check.refused(ONE_BEAM + "clock x b 31 1 1;", 2, 21);
        fine(ONE_BEAM + "clock x b 30 9 99 phase 999 drive 99 swing 999 start 999;", 2);
        Check.refused(ONE_BEAM + "clock x b 0 10 1;", 2, 23);
        Check.refused(ONE_BEAM + "clock x b 0 1 0;", 2, 25);
        Check.refused(ONE_BEAM + "clock x b 0 1 1 drive 100;", 2, 33);
        Check.refused(ONE_BEAM + "clock x b 0 1 1 swing 1000;", 2, 33);
        Check.refused(ONE_BEAM + "clock x b 0 1 1 start 1000;", 2, 33);
        fine("wall 99;", 1);
        Check.refused(ONE_CLOCK + "may m hang x b 31;", 2, 42);
    }

    private static void promise3Told() {
        fine("beam b 0 0;clock b b 0 1 1;may b hang b b 0;", 3);
        Check.refused("beam b 0 0;beam b 100 0;", 3, 16);
        Check.refused(ONE_CLOCK + "clock x y 0 1 1;", 3, 33);
        Check.refused("may m;may m;", 3, 10);
        fine(ONE_BEAM + "clock x b 0 1 1 start 1 swing 1 drive 1 phase 1;", 2);
        for (String word : new String[] {"phase", "drive", "swing", "start"}) {
            Check.refused(ONE_BEAM + "clock x b 0 1 1 " + word + " 1 " + word + ";", 3, 35);
        }
        Check.refused("wall 1;wall;", 3, 7);
        fine("law lose 1;law go 1;", 2);
        Check.refused("law lose 1;law lose;", 3, 15);
        Check.refused("law lose 1;law go 2;law go 1;", 3, 24);
        String two = ONE_CLOCK + "clock y b 1 1 1;";
        Check.refused(two + "may m hang x b 5 hang x b 6;", 3, 65);
        fine(two + "may m hang x b 5;may n hang x b 5;", 5);
        Check.refused(ONE_BEAM + "clock x c 0 1 1;", 4, 19);
        Check.refused("clock x x 0 1 1;", 4, 8);
        Check.refused(two + "may m hang z b 5;", 4, 54);
        Check.refused(two + "may m hang x c 5;", 4, 56);
        Check.refused("beam b 0 0;may m hang x b 1;clock x b 0 1 1;", 4, 22);
        Check.refused(ONE_CLOCK + "clock y b 0 1 1;", 5, 37);
        fine(ONE_CLOCK + "beam c 0 0;clock y c 0 1 1;", 4);
        Check.refused(two + "may m hang x b 5 hang y b 5;", 5, 69);
        fine(two + "may m hang x b 1;", 4);
        fine(two + "may m hang x b 1 hang y b 0;", 4);
        fine(two + "may m hang x b 0;", 4);
    }

    private static void promise3Expressions() {
        fine("law go ((((((((1))))))));", 1);
        Check.refused("law go (((((((((1)))))))));", 2, 15);
        fine("law go (1)+(1)+((1))+((((((((1))))))));", 1);
        Check.refused("law go 10000;", 2, 7);
        fine("law go 9999;", 1);
        // 1 and 31 times +1 are 63 knots, a not is the 64th
        String long63 = "1" + "+1".repeat(31);
        fine("law go not " + long63 + ";", 1);
        Check.refused("law go " + long63 + "+1;", 2, 7 + 64);
        Check.refused("law lose " + long63 + "+", 1, 9 + 64);
        Check.refused("law lose " + long63 + ";law go 1+1;", 2, 9 + 63 + 9);
        Check.refused("law go " + "not ".repeat(64) + "1;", 2, 7 + 256);
        Check.refused("law go " + "not ".repeat(65) + "1;", 2, 7 + 256);
        Check.refused("law go 1 < 2 < 3;", 1, 13);
        Check.refused("law go 1 < 2 + 1 = 3;", 1, 17);
        fine("law go (1 < 2) < 3;", 1);
        String[] signs = {"<", "<=", "=", "<>", ">=", ">"};
        for (String one : signs) {
            fine("law go 1 " + one + " 2 * 2;", 1);
            for (String other : signs) {
                Check.refused("law go 1 " + one + " 2 " + other + " 3;", 1, 12 + one.length());
                fine("law go 1 " + one + " 2 and 1 " + other + " 3;", 1);
            }
        }
        fine("law go 1 < 2 and 2 < 3 or 1 > 2;", 1);
        Check.refused("law go 1 + not 2;", 1, 11);
        Check.refused("law go 1 < not 2;", 1, 11);
        fine("law go not not 1 and not 0 or not (not 1);", 1);
        Check.refused("law go 1 => 2;", 1, 10);
        Check.refused("law go 1 < = 2;", 1, 11);
        Check.refused("law go 1 <>= 2;", 1, 11);
        Check.refused("law go 1 >> 2;", 1, 10);
        Check.refused("law go (1;", 1, 9);
        Check.refused("law go 1);", 1, 8);
        Check.refused("law go ();", 1, 8);
        Check.refused("law go -1;", 1, 7);
        Check.refused("law go 1 2;", 1, 9);
        Check.refused("law go 1 not 2;", 1, 9);
        Check.refused("law go (1 2);", 1, 10);
        Check.refused("law go 1 +;", 1, 10);
        Check.refused("law go phase;", 1, 7);
        Check.refused("law go (1 + 2", 1, 13);
        Check.refused("law go 1 and;", 1, 12);
        BeamClocks x = Check.told("law lose (1 + speed) * 2;law go not count <= 3 and step or 1;");
        Check.same("knots: brackets are none", x.count(3), 5 + 8);
    }

    private static void promise4() {
        BeamClocks x = new BeamClocks();
        Check.same("fault(0) ahead of any text", x.fault(0), 0);
        Check.same("fault(1) ahead of any text", x.fault(1), -1);
        Check.tell(x, "wall 1");
        Check.same("fault(0)", x.fault(0), 1);
        Check.same("fault(1)", x.fault(1), 6);
        Check.same("fault(2)", x.fault(2), -1);
        Check.same("fault(-1)", x.fault(-1), -1);
        Check.same("text(1) of an empty tape", x.text(1), -2);
        Check.same("that was -2: the fault stays", x.fault(0), 1);
        x.keep();
        Check.tell(x, "wall 100;");
        x.back();
        Check.same("an image does not keep the fault", x.fault(0), 2);
        Check.tell(x, "wall 1;");
        Check.same("no fault", x.fault(0), 0);
        Check.same("no place", x.fault(1), -1);
    }

    private static void promise5() {
        BeamClocks x = Check.told("beam b 0 0;beam za 0 0;clock b b 0 1 1;clock abcdef za 0 1 1;may m;may b;");
        Check.same("beam b", x.named(0, Check.letters("b")), 0);
        Check.same("beam za", x.named(0, 26 << 25 | 1 << 20), 1);
        Check.same("clock b", x.named(1, 2 << 25), 0);
        Check.same("clock abcdef", x.named(1, 1 << 25 | 2 << 20 | 3 << 15 | 4 << 10 | 5 << 5 | 6), 1);
        Check.same("may b", x.named(2, 2 << 25), 1);
        Check.same("no clock za", x.named(1, Check.letters("za")), -1);
        Check.same("no clock abcde", x.named(1, Check.letters("abcde")), -1);
        Check.same("what 3", x.named(3, 2 << 25), -1);
        Check.same("what -1", x.named(-1, 2 << 25), -1);
        Check.same("b at the wrong end", x.named(0, 2), -1);
        Check.same("no letters", x.named(0, 0), -1);
        Check.same("a bit above all letters", x.named(0, 2 << 25 | 1 << 30), -1);
        Check.same("below 0", x.named(0, 2 << 25 | 1 << 31), -1);
        Check.tell(x, "beam c 0 0;");
        Check.same("told anew: no beam b", x.named(0, 2 << 25), -1);
        Check.same("told anew: no clock b", x.named(1, 2 << 25), -1);
    }

    /** By go's E a clock without pulls goes; speed 40 by an error. */
    private static void worth(String e, int want) {
        BeamClocks x = Check.told("beam b 0 0;law go " + e + ";clock x b 7 3 40 swing 600;");
        x.steps(1);
        Check.same("go's E " + e, Check.look(x, 0, 4), want);
    }

    private static void expressions() {
        worth("1+2*3", 7);
        worth("(1+2)*3", 9);
        worth("10-3-2", 5);
        worth("60/3/2", 10);
        worth("20/3", 6);
        worth("50+(0-20)/3", 44);
        worth("2*3<7", 1);
        worth("7/0", 40);
        worth("0*(1/0)", 40);
        worth("1 or 1/0", 40);
        worth("0 and 1/0", 40);
        worth("not 0", 1);
        worth("not 5", 0);
        worth("not 0 + 5", 0);
        worth("not 1 < 0", 1);
        worth("not 0 and 0", 0);
        worth("not not 7", 1);
        worth("2<3", 1);
        worth("3<3", 0);
        worth("3<=3", 1);
        worth("3=3", 1);
        worth("3<>3", 0);
        worth("2<>3", 1);
        worth("3>=4", 0);
        worth("4>=4", 1);
        worth("4>3", 1);
        worth("3>3", 0);
        worth("2 or 0", 1);
        worth("0 or 0", 0);
        worth("2 and 4", 1);
        worth("1 or 0 and 0", 1);
        worth("1+1=2 and 3>2", 1);
        worth("5+(3>2)", 6);
        worth("place", 7);
        worth("weight", 3);
        worth("speed", 40);
        worth("swing/10", 60);
        worth("step", 0);
        worth("count", 0);
        worth("pull", 0);
        worth("99", 99);
        worth("100", 99);
        worth("0-5", 0);
        String limit = "9999*9999*9999+9999*9999*3+9999*3";
        worth(limit + "+1", 99);
        worth(limit + "+2", 40);
        worth("(" + limit + "+2)*0+7", 40);
        worth("0-(" + limit + ")-1", 0);
        worth("0-(" + limit + ")-2", 40);
        worth("(" + limit + ")*(" + limit + ")", 40);
        worth("(" + limit + "+1)*(0-1)+(" + limit + "+1)+3", 3);
        worth("9999*9999*9999*9999*9999*9999", 40);
        // 2 to the 32 times itself is 0 in a long that goes round
        worth("(4096*4096*256)*(4096*4096*256)+5", 40);
        worth("(0-4096*4096*256)*(4096*4096*256)+5", 40);
    }
}
