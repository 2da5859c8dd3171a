/** What the tests share: counting wrong answers, and feeding a text that is written out. */
final class Check {
    private static int wrong = 0;
    private static int asked = 0;
    private static String sentence = "";

    private Check() {
    }

    /** The sentence of the document that the answers asked from now on belong to. */
    static void of(String words) {
        sentence = words;
    }

    static void same(String what, long got, long want) {
        asked++;
        if (got != want) {
            wrong++;
            if (wrong <= 60) {
                String where = sentence.isEmpty() ? "" : "[" + sentence + "] ";
                System.out.println(where + what + " answered " + got + ", due is " + want);
            }
        }
    }

    static void yes(String what, boolean got) {
        same(what, got ? 1 : 0, 1);
    }

    static void no(String what, boolean got) {
        same(what, got ? 1 : 0, 0);
    }

    static int wrongSoFar() {
        return wrong;
    }

    /** Ends the test: exit code 1 if an answer was wrong. */
    static void end() {
        System.out.println(asked + " answers asked, " + wrong + " wrong");
        if (wrong != 0 || asked == 0) {
            System.exit(1);
        }
    }

    /** Feeds a text whole, in rows of twenty bytes with blanks behind; answers false if it has no room. */
    static boolean feed(BeamClocks x, String text) {
        for (int from = 0; from < text.length(); from += 20) {
            int[] numbers = new int[5];
            for (int i = 0; i < 20; i++) {
                int sign = from + i < text.length() ? text.charAt(from + i) : ' ';
                numbers[i / 4] = numbers[i / 4] << 8 | sign & 255;
            }
            if (x.feed(numbers[0], numbers[1], numbers[2], numbers[3], numbers[4]) == BeamClocks.NONE) {
                return false;
            }
        }
        return true;
    }

    static int tell(BeamClocks x, String text) {
        return feed(x, text) ? x.text(text.length()) : Integer.MIN_VALUE;
    }

    /** A new object with this text, which must be one. */
    static BeamClocks told(String text) {
        BeamClocks x = new BeamClocks();
        int lines = tell(x, text);
        if (lines < 0) {
            same("text \"" + text + "\" (fault " + x.fault(0) + " at " + x.fault(1) + ")", lines, 0);
        }
        return x;
    }

    /** Asks that a new object takes this text, of so many lines. */
    static BeamClocks fine(String text, int lines) {
        BeamClocks x = new BeamClocks();
        same("text \"" + text + "\"", tell(x, text), lines);
        same("no fault of \"" + text + "\"", x.fault(0), 0);
        same("no place of a fault in \"" + text + "\"", x.fault(1), BeamClocks.NONE);
        return x;
    }

    /** Asks that a new object refuses this text with this fault at this place. */
    static void refused(String text, int fault, int place) {
        BeamClocks x = new BeamClocks();
        same("text \"" + text + "\"", tell(x, text), BeamClocks.NONE);
        same("fault of \"" + text + "\"", x.fault(0), fault);
        same("its place in \"" + text + "\"", x.fault(1), place);
    }

    /** look(), with 1000000 for IndexOutOfBoundsException and 2000000 for NoSuchElementException. */
    static int look(BeamClocks x, int clock, int what) {
        try {
            return x.look(clock, what);
        } catch (IndexOutOfBoundsException e) {
            return 1000000;
        } catch (java.util.NoSuchElementException e) {
            return 2000000;
        }
    }

    /** A name's letters, five bits each. */
    static int letters(String name) {
        int packed = 0;
        for (int i = 0; i < 6; i++) {
            packed = packed << 5 | (i < name.length() ? name.charAt(i) - 'a' + 1 : 0);
        }
        return packed;
    }
}
