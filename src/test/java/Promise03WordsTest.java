/** Promise 3: the TOKENS of a TEXT, its words, numbers and blanks, and FAULT 1. */
public final class Promise03WordsTest {
    private static final String ONE_BEAM = "beam b 0 0;";
    private static final String ONE_CLOCK = "beam b 0 0;clock x b 0 1 1;";
    private static final String[] LANGUAGE = {"beam", "clock", "wall", "law", "may", "phase", "drive", "swing", "start",
        "hang", "lose", "go", "or", "and", "not", "speed", "pull", "weight", "place", "step", "count"};

    public static void main(String[] args) {
        ordinary();
        everyByteBetweenTokens();
        everyByteInAnE();
        oneToSixLetters();
        namesBesideTheLanguage();
        noneOfTheLanguage();
        theLengthIfMoreMustCome();
        theFirstAlongTheText();
        ofOnePlaceTheLeast();
        Check.end();
    }

    /** What the tape has behind the first n bytes is no part of the text. */
    private static void cut(String tape, int n, int fault, int place) {
        BeamClocks x = new BeamClocks();
        Check.feed(x, tape);
        Check.same("text(" + n + ") of " + tape, x.text(n), -1);
        Check.same("its fault", x.fault(0), fault);
        Check.same("its place", x.fault(1), place);
    }

    private static void ordinary() {
        Check.refused(";", 1, 0);
        cut("wall 12;", 6, 1, 6);
        cut("law go 1 <= 2;", 10, 1, 10);
        cut("law go 1 < 2;", 11, 1, 11);
        cut("wall;", 3, 1, 0);
        cut("wall 1;", 6, 1, 6);
        Check.refused("beam", 1, 4);
        Check.refused("beam b", 1, 6);
        Check.refused("beam b 1 1", 1, 10);
        Check.refused("beam b 1 1 \n", 1, 12);
        Check.refused("beam abcdefg 1 1;", 1, 5);
        Check.fine("beam abcdef 1 1;", 1);
        Check.refused("beam step 1 1;", 1, 5);
        Check.refused("beam weight 1 1;", 1, 5);
        Check.refused("beam B 1 1;", 1, 5);
        Check.refused("beam b 1\t1;", 1, 8);
        Check.refused("beam b 1 1 1;", 1, 11);
        Check.refused("beam b 11;", 1, 9);
        Check.refused("beam 1 1;", 1, 5);
        Check.refused("beams b 1 1;", 1, 0);
        Check.fine("beam b1 1;", 1);
        Check.fine("beam\nb\n1\n1\n;\n", 1);
        Check.fine("beam b 007 0000000000000000000000099;", 1);
        Check.fine("", 0);
        Check.refused("b", 1, 0);
        Check.refused("beam b 1 1;\u00e9", 1, 11);
        Check.refused("law beam 1;", 1, 4);
        Check.refused("clock;", 1, 5);
        Check.refused(ONE_BEAM + "clock x b 0 1 1 weight 1;", 1, 27);
        Check.refused(ONE_CLOCK + "may;", 1, 30);
        Check.refused(ONE_CLOCK + "may m hang;", 1, 37);
        Check.refused(ONE_CLOCK + "may m hang x;", 1, 39);
        Check.refused(ONE_CLOCK + "may m hang x b;", 1, 41);
        Check.refused(ONE_CLOCK + "may m x b 1;", 1, 33);
        Check.refused(ONE_CLOCK + "hang x b 1;", 1, 27);
    }

    /** 0 a blank, 1 a small letter, 2 none of these, 3 a digit. */
    private static int kindOf(int sign) {
        if (sign == 10 || sign == 32) {
            return 0;
        }
        if (sign >= '0' && sign <= '9') {
            return 3;
        }
        return sign >= 'a' && sign <= 'z' ? 1 : 2;
    }

    private static void everyByteBetweenTokens() {
        Check.of("Terms: words are small letters, N digits, blanks 10 and 32; FAULT 1 a TOKEN that is none");
        for (int sign = 0; sign <= 255; sign++) {
            int kind = kindOf(sign);
            String between = "wall" + (char) sign + "1;";
            String ahead = (char) sign + "wall 1;";
            String behind = "wall 1;" + (char) sign;
            if (kind == 0) {
                Check.fine(between, 1);
                Check.fine(ahead, 1);
                Check.fine(behind, 1);
            } else {
                if (kind == 3) {
                    Check.fine(between, 1);
                } else {
                    Check.refused(between, 1, kind == 1 ? 0 : 4);
                }
                Check.refused(ahead, 1, 0);
                Check.refused(behind, 1, 7);
            }
        }
    }

    private static void everyByteInAnE() {
        Check.of("Terms: the signs of an E; FAULT 1 a TOKEN that is none or can't stand there");
        for (int sign = 0; sign <= 255; sign++) {
            String text = "law go 1" + (char) sign + "1;";
            if ("+-*/<=>".indexOf(sign) >= 0 || sign >= '0' && sign <= '9') {
                Check.fine(text, 1);
            } else {
                Check.refused(text, 1, sign == 10 || sign == 32 || sign == ';' ? 9 : 8);
            }
        }
    }

    /** Each place of a TEXT where a W stands, with what is ahead of it and behind it, and the fault of a name not told. */
    private static final String[][] SPOTS = {
        {"beam ", " 0 0;", "0"}, {ONE_BEAM + "clock ", " b 0 1 1;", "0"}, {"may ", ";", "0"},
        {ONE_BEAM + "clock x ", " 0 1 1;", "4"}, {ONE_CLOCK + "may m hang ", " b 0;", "4"},
        {ONE_CLOCK + "may m hang x ", " 0;", "4"}};

    private static void spot(String[] spot, String word, boolean isName) {
        String text = spot[0] + word + spot[1];
        if (!isName) {
            Check.refused(text, 1, spot[0].length());
        } else if (spot[2].equals("4")) {
            Check.refused(text, 4, spot[0].length());
        } else {
            Check.fine(text, (int) text.chars().filter(c -> c == ';').count());
        }
    }

    private static void oneToSixLetters() {
        Check.of("Terms: W is a word of 1 .. 6 letters; FAULT 1 a word of more than 6 letters, too");
        for (String[] spot : SPOTS) {
            for (int letters = 1; letters <= 9; letters++) {
                spot(spot, "z".repeat(letters), letters <= 6);
                spot(spot, "a".repeat(letters), letters <= 6);
            }
            spot(spot, "a".repeat(600), false);
            spot(spot, "1", false);
            spot(spot, "(", false);
            spot(spot, ";", false);
        }
        String told = "beam abcdef 0 0;clock uvwxyz abcdef 0 1 1;";
        Check.fine(told + "may m hang uvwxyz abcdef 1;", 3);
        Check.refused(told + "may m hang uvwxyza abcdef 1;", 1, told.length() + 11);
        Check.refused(told + "may m hang uvwxyz abcdefa 1;", 1, told.length() + 18);
        Check.refused(told + "clock uvwxyzz abcdef 1 1 1;", 1, told.length() + 6);
        // a word of the language with more letters behind its sixth is none of it
        Check.refused("weights 1;", 1, 0);
        Check.refused("law go weightt;", 1, 7);
        Check.refused("b".repeat(700), 1, 0);
    }

    private static void namesBesideTheLanguage() {
        Check.of("Terms: W is none of the words of the language, but any other");
        for (String[] spot : SPOTS) {
            for (String word : LANGUAGE) {
                if (word.length() < 6) {
                    spot(spot, word + "x", true);
                }
                spot(spot, word.substring(1), !isOfLanguage(word.substring(1)));
                String shorter = word.substring(0, word.length() - 1);
                spot(spot, shorter, !isOfLanguage(shorter));
            }
        }
    }

    private static boolean isOfLanguage(String word) {
        return java.util.Arrays.asList(LANGUAGE).contains(word);
    }

    private static void noneOfTheLanguage() {
        Check.of("Terms: W is none of the words of the language");
        for (String[] spot : SPOTS) {
            for (String word : LANGUAGE) {
                spot(spot, word, false);
            }
        }
        for (String word : LANGUAGE) {
            boolean line = "beam clock wall law may".contains(word);
            Check.refused(word, 1, line ? word.length() : 0);
        }
    }

    private static void theLengthIfMoreMustCome() {
        Check.of("FAULT 1: the length, if more must come");
        String[] whole = {"beam b 1 2", "clock x b 3 4 5 phase 6 drive 7 swing 8 start 9", "wall 7", "law lose 1 + ( 2 * 3 )",
            "law go not speed <= 4 and 1 or 2", "may m hang x b 3 hang y b 4"};
        for (String line : whole) {
            String before = "beam b 0 0;clock y b 20 1 1;";
            if (line.startsWith("beam")) {
                before = "";
            } else if (line.startsWith("may")) {
                before = ONE_CLOCK + "clock y b 20 1 1;";
            }
            String[] words = line.split(" ");
            StringBuilder cut = new StringBuilder(before);
            for (int i = 0; i < words.length; i++) {
                cut.append(i == 0 ? "" : " ").append(words[i]);
                Check.refused(cut.toString(), 1, cut.length());
                Check.refused(cut + " \n ", 1, cut.length() + 3);
            }
            Check.fine(cut + ";", before.isEmpty() ? 1 : line.startsWith("may") ? 4 : 3);
        }
    }

    private static void theFirstAlongTheText() {
        Check.of("FAULTS: the first along the text");
        Check.refused("wall 100;wall 1;#", 2, 5);
        Check.refused("wall 1;wall 100;#", 3, 7);
        Check.refused("wall 1;#wall 100;", 1, 7);
        Check.refused(ONE_BEAM + "clock x c 31 0 0;", 4, 19);
        Check.refused(ONE_BEAM + "clock x b 31 0 0;", 2, 21);
        Check.refused(ONE_BEAM + "clock x b 30 0 0;", 2, 24);
        Check.refused(ONE_BEAM + "clock x b 30 1 0;", 2, 26);
        Check.refused(ONE_CLOCK + "clock x c 0 0 0;", 3, 33);
        Check.refused(ONE_CLOCK + "clock y b 0 0 0;", 5, 37);
        Check.refused(ONE_CLOCK + "clock y b 1 0 0;", 2, 39);
        Check.refused(ONE_CLOCK + "may m hang x b 31 hang x b 0;", 2, 42);
        Check.refused(ONE_CLOCK + "may m hang x c 31;", 4, 40);
        Check.refused("beam a 0 0;beam b 0 0;beam c 0 0;beam a 100;", 2, 33);
        Check.refused("may a;may b;may c;may d;may a;", 2, 24);
        Check.refused("law go 10000 (;", 2, 7);
        Check.refused("law go 1;law lose 10000;law go 2;", 2, 18);
        // all that comes behind a fault, even a word that never ends, doesn't count
        Check.refused("wall 100;" + "w".repeat(680), 2, 5);
    }

    private static void ofOnePlaceTheLeast() {
        Check.of("FAULTS: of one place the least");
        // what can't stand there is 1, though it is too much or told already as well
        Check.refused("beam b 1 1 100;", 1, 11);
        Check.refused("beam a 0 0;beam b 0 0;beam c 0 0 beam d 0 0;", 1, 33);
        Check.refused("wall 1 wall 1;", 1, 7);
        Check.refused("law go 1 10000;", 1, 9);
        Check.refused("law go ((((((((1(", 1, 16);
        Check.refused("law go ((((((((1((", 1, 16);
        String full = "law lose not 1" + "+1".repeat(31);
        Check.refused(full + " + 3;", 2, full.length() + 1);
        Check.refused(full + " 3;", 1, full.length() + 1);
        Check.refused(full + " 10000;", 1, full.length() + 1);
        Check.refused(full + " not 3;", 1, full.length() + 1);
        String half = "law lose 1" + "+1".repeat(31) + "+";
        Check.refused(half + "2;", 2, half.length());
        Check.refused(half + "not 2;", 1, half.length());
        Check.refused(half + ";", 1, half.length());
        String compared = "law lose not 1" + "+1".repeat(30) + "<1";
        Check.refused(compared + "+2;", 2, compared.length());
        Check.refused(compared + "<2;", 1, compared.length());
        Check.refused(ONE_CLOCK + "clock y b 1 1 1 phase 1 phase;", 3, 51);
        Check.refused(ONE_CLOCK + "clock y b 1 1 phase 1;", 1, 41);
        Check.refused("law lose 1 law lose 2;", 1, 11);
        Check.refused(ONE_CLOCK + "may m hang x b hang x;", 1, 42);
        Check.refused("beam b 0 0;beam step 0 0;", 1, 16);
    }
}
