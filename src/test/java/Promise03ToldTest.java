/** Promise 3: what is told already, not told, or hangs where one hangs: FAULTS 3, 4 and 5. */
public final class Promise03ToldTest {
    private static final String ONE_BEAM = "beam b 0 0;";
    private static final String ONE_CLOCK = "beam b 0 0;clock x b 0 1 1;";
    private static final String TWO_CLOCKS = ONE_CLOCK + "clock y b 1 1 1;";

    public static void main(String[] args) {
        ordinary();
        namesOfTheirKind();
        toldOfTheSameClock();
        oneWallAndOneLawOfAKind();
        aClockOnceInAMay();
        toldAhead();
        aPlaceWithAClock();
        aPlaceOfAMay();
        Check.end();
    }

    private static void ordinary() {
        Check.fine("beam b 0 0;clock b b 0 1 1;may b hang b b 0;", 3);
        Check.refused("beam b 0 0;beam b 100 0;", 3, 16);
        Check.refused(ONE_CLOCK + "clock x y 0 1 1;", 3, 33);
        Check.refused("may m;may m;", 3, 10);
        Check.fine(ONE_BEAM + "clock x b 0 1 1 start 1 swing 1 drive 1 phase 1;", 2);
        for (String word : new String[] {"phase", "drive", "swing", "start"}) {
            Check.refused(ONE_BEAM + "clock x b 0 1 1 " + word + " 1 " + word + ";", 3, 35);
        }
        Check.refused("wall 1;wall;", 3, 7);
        Check.fine("law lose 1;law go 1;", 2);
        Check.refused("law lose 1;law lose;", 3, 15);
        Check.refused("law lose 1;law go 2;law go 1;", 3, 24);
        String two = ONE_CLOCK + "clock y b 1 1 1;";
        Check.refused(two + "may m hang x b 5 hang x b 6;", 3, 65);
        Check.fine(two + "may m hang x b 5;may n hang x b 5;", 5);
        Check.refused(ONE_BEAM + "clock x c 0 1 1;", 4, 19);
        Check.refused("clock x x 0 1 1;", 4, 8);
        Check.refused(two + "may m hang z b 5;", 4, 54);
        Check.refused(two + "may m hang x c 5;", 4, 56);
        Check.refused("beam b 0 0;may m hang x b 1;clock x b 0 1 1;", 4, 22);
        Check.refused(ONE_CLOCK + "clock y b 0 1 1;", 5, 37);
        Check.fine(ONE_CLOCK + "beam c 0 0;clock y c 0 1 1;", 4);
        Check.refused(two + "may m hang x b 5 hang y b 5;", 5, 69);
        Check.fine(two + "may m hang x b 1;", 4);
        Check.fine(two + "may m hang x b 1 hang y b 0;", 4);
        Check.fine(two + "may m hang x b 0;", 4);
    }

    private static void namesOfTheirKind() {
        Check.of("FAULT 3: a name of its kind (at W)");
        Check.refused("beam abcdef 0 0;beam abcdef", 3, 21);
        Check.fine("beam abcdef 0 0;beam abcde 0 0;beam abcdeg 0 0;", 3);
        Check.refused("beam a 0 0;beam c 0 0;beam a", 3, 27);
        Check.refused("beam a 0 0;beam c 0 0;beam c", 3, 27);
        Check.refused(TWO_CLOCKS + "clock x", 3, TWO_CLOCKS.length() + 6);
        Check.refused(TWO_CLOCKS + "clock y", 3, TWO_CLOCKS.length() + 6);
        Check.refused("may a;may c;may d;may a", 3, 22);
        Check.refused("may a;may c;may d;may d", 3, 22);
        Check.fine("beam x 0 0;clock x x 0 1 1;may x;", 3);
        Check.fine("may b;beam b 0 0;clock b b 0 1 1;", 3);
    }

    private static void toldOfTheSameClock() {
        Check.of("FAULT 3: phase, drive, swing, start of the same (at the word)");
        String[] words = {"phase", "drive", "swing", "start"};
        for (String first : words) {
            for (String second : words) {
                String twice = ONE_BEAM + "clock x b 0 1 1 " + first + " 7 " + second + " 7";
                if (first.equals(second)) {
                    Check.refused(twice + ";", 3, 35);
                } else {
                    Check.fine(twice + ";", 2);
                    Check.refused(twice + " " + first + " 7;", 3, 43);
                    Check.refused(twice + " " + second, 3, 43);
                }
            }
            // of another clock it may be told again
            Check.fine(ONE_BEAM + "clock x b 0 1 1 " + first + " 7;clock y b 1 1 1 " + first + " 7;", 3);
        }
        String all = ONE_BEAM + "clock x b 0 1 1 phase 7 drive 7 swing 7 start 7";
        Check.fine(all + ";", 2);
        for (String word : words) {
            Check.refused(all + " " + word + " 7;", 3, all.length() + 1);
        }
        Check.refused(all + " hang", 1, all.length() + 1);
    }

    private static void oneWallAndOneLawOfAKind() {
        Check.of("FAULT 3: wall (at the word), a law of its KIND (at KIND)");
        Check.refused("wall 0;wall 0;", 3, 7);
        Check.refused("wall 5;may m;wall", 3, 13);
        Check.refused("law go 0;law go", 3, 13);
        Check.refused("law lose 0;law lose 0;", 3, 15);
        Check.refused("law go 1;law lose 1;law go", 3, 24);
        Check.refused("law go 1;law lose 1;law lose", 3, 24);
        Check.refused("law go 1;law", 1, 12);
        Check.fine("law go 1;law lose 1;wall 1;", 3);
        BeamClocks x = new BeamClocks();
        for (int i = 0; i < 2; i++) {
            Check.same("told in another text doesn't count", Check.tell(x, "wall 1;law go 1;law lose 1;"), 3);
            Check.same("nor in a faulty one", Check.tell(x, "wall 1;law go 1;law lose 1;#"), -1);
        }
    }

    private static void aClockOnceInAMay() {
        Check.of("FAULT 3: a CLOCK of the same MAY (at its W)");
        Check.refused(TWO_CLOCKS + "may m hang x b 5 hang y b 6 hang x", 3, TWO_CLOCKS.length() + 33);
        Check.refused(TWO_CLOCKS + "may m hang x b 5 hang y b 6 hang y b 7;", 3, TWO_CLOCKS.length() + 33);
        Check.refused(TWO_CLOCKS + "may m hang x b 5 hang x b 5;", 3, TWO_CLOCKS.length() + 22);
        Check.fine(TWO_CLOCKS + "may m hang y b 5;may n hang y b 5 hang x b 6;may o hang x b 6;may p hang x b 0;", 7);
        StringBuilder six = new StringBuilder(ONE_BEAM);
        StringBuilder may = new StringBuilder("may m");
        for (int i = 0; i < 6; i++) {
            six.append("clock ").append((char) ('p' + i)).append(" b ").append(i).append(" 1 1;");
            may.append(" hang ").append((char) ('p' + i)).append(" b ").append(10 + i);
        }
        Check.fine(six.toString() + may + ";", 8);
        for (int i = 0; i < 6; i++) {
            Check.refused(six.toString() + may + " hang " + (char) ('p' + i) + " b 30;", 3, six.length() + may.length() + 6);
        }
    }

    private static void toldAhead() {
        Check.of("FAULT 4: a BEAM, CLOCK that isn't told ahead (at W)");
        Check.refused("clock x b 0 1 1;beam b 0 0;", 4, 8);
        Check.refused(ONE_BEAM + "clock x a 0 1 1;beam a 0 0;", 4, 19);
        Check.refused(ONE_BEAM + "clock x x 0 1 1;", 4, 19);
        Check.refused(ONE_BEAM + "clock x bb 0 1 1;", 4, 19);
        Check.refused("may m hang m", 4, 11);
        Check.refused(ONE_BEAM + "may m hang b b 0;", 4, 22);
        Check.refused(ONE_CLOCK + "may m hang x x 0;", 4, 40);
        Check.refused(ONE_CLOCK + "may m hang x m 0;", 4, 40);
        Check.refused(ONE_CLOCK + "may m hang y b 0;clock y b 1 1 1;", 4, 38);
        Check.refused(ONE_CLOCK + "may m hang x c 0;beam c 0 0;", 4, 40);
        Check.fine(ONE_CLOCK + "clock y b 1 1 1;beam c 0 0;may m hang y c 0;", 5);
        BeamClocks x = Check.told(TWO_CLOCKS);
        Check.same("told in the text ahead is not told", Check.tell(x, "may m hang x b 0;"), -1);
        Check.same("not told", x.fault(0), 4);
        Check.same("there", x.fault(1), 11);
    }

    private static void aPlaceWithAClock() {
        Check.of("FAULT 5: a PLACE with a CLOCK (at N)");
        for (int place : new int[] {0, 1, 29, 30}) {
            String first = ONE_BEAM + "clock x b " + place + " 1 1;";
            Check.refused(first + "clock y b " + place + " 1 1;", 5, first.length() + 10);
            Check.refused(first + "clock y b 000" + place + " 1 1;", 5, first.length() + 10);
            Check.fine(first + "beam c 0 0;clock y c " + place + " 1 1;", 4);
            Check.fine(first + "clock y b " + (place == 30 ? 0 : place + 1) + " 1 1;", 3);
        }
        String five = ONE_BEAM;
        for (int i = 0; i < 5; i++) {
            five = five + "clock " + (char) ('p' + i) + " b " + 3 * i + " 1 1;";
        }
        for (int i = 0; i < 5; i++) {
            Check.refused(five + "clock z b " + 3 * i + " 1 1;", 5, five.length() + 10);
        }
        // 256 and 2 to the 32 are no places, not places with a clock
        Check.refused(ONE_CLOCK + "clock y b 256 1 1;", 2, 37);
        Check.refused(ONE_CLOCK + "clock y b 4294967296 1 1;", 2, 37);
    }

    private static void aPlaceOfAMay() {
        Check.of("FAULT 5: of a MAY: of those that it hangs ahead");
        String may = TWO_CLOCKS + "beam c 0 0;may m hang x b ";
        for (int place : new int[] {0, 1, 30}) {
            int at = may.length() + ("" + place).length() + 10;
            Check.refused(may + place + " hang y b " + place + ";", 5, at);
            Check.fine(may + place + " hang y c " + place + ";", 5);
            // where one that it doesn't hang hangs by the text, and where another may hangs one
            Check.fine(may + place + ";may n hang y b " + place + ";", 6);
        }
        Check.fine(may + "1;", 5);
        Check.fine(may + "1 hang y b 0;", 5);
        Check.fine(may + "0 hang y b 1;", 5);
    }
}
