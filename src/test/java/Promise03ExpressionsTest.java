/** Promise 3: how an E of a law is written. */
public final class Promise03ExpressionsTest {
    public static void main(String[] args) {
        ordinary();
        namesAndNoOthers();
        signsOfTwoParts();
        oneComparisonOnly();
        notWhereABBegins();
        somethingOnBothSides();
        brackets();
        aLawHasAKindAndAnE();
        Check.end();
    }

    private static void ordinary() {
        Check.fine("law go ((((((((1))))))));", 1);
        Check.refused("law go (((((((((1)))))))));", 2, 15);
        Check.fine("law go (1)+(1)+((1))+((((((((1))))))));", 1);
        Check.refused("law go 10000;", 2, 7);
        Check.fine("law go 9999;", 1);
        // 1 and 31 times +1 are 63 knots, a not is the 64th
        String long63 = "1" + "+1".repeat(31);
        Check.fine("law go not " + long63 + ";", 1);
        Check.refused("law go " + long63 + "+1;", 2, 7 + 64);
        Check.refused("law lose " + long63 + "+", 1, 9 + 64);
        Check.refused("law lose " + long63 + ";law go 1+1;", 2, 9 + 63 + 9);
        Check.refused("law go " + "not ".repeat(64) + "1;", 2, 7 + 256);
        Check.refused("law go " + "not ".repeat(65) + "1;", 2, 7 + 256);
        Check.refused("law go 1 < 2 < 3;", 1, 13);
        Check.refused("law go 1 < 2 + 1 = 3;", 1, 17);
        Check.fine("law go (1 < 2) < 3;", 1);
        String[] signs = {"<", "<=", "=", "<>", ">=", ">"};
        for (String one : signs) {
            Check.fine("law go 1 " + one + " 2 * 2;", 1);
            for (String other : signs) {
                Check.refused("law go 1 " + one + " 2 " + other + " 3;", 1, 12 + one.length());
                Check.fine("law go 1 " + one + " 2 and 1 " + other + " 3;", 1);
            }
        }
        Check.fine("law go 1 < 2 and 2 < 3 or 1 > 2;", 1);
        Check.refused("law go 1 + not 2;", 1, 11);
        Check.refused("law go 1 < not 2;", 1, 11);
        Check.fine("law go not not 1 and not 0 or not (not 1);", 1);
        Check.refused("law go 1 => 2;", 1, 10);
        Check.refused("law go 1 < = 2;", 1, 11);
        Check.refused("law go 1 <>= 2;", 1, 11);
        Check.refused("law go 1 >> 2;", 1, 10);
        Check.refused("law go (1;", 1, 9);
        Check.refused("law go 1);", 1, 8);
        Check.refused("law go ();", 1, 8);
        Check.refused("law go -1;", 1, 7);
        Check.refused("law go 1 2;", 1, 9);
        Check.refused("law go 1 not 2;", 1, 9);
        Check.refused("law go (1 2);", 1, 10);
        Check.refused("law go 1 +;", 1, 10);
        Check.refused("law go phase;", 1, 7);
        Check.refused("law go (1 + 2", 1, 13);
        Check.refused("law go 1 and;", 1, 12);
        BeamClocks x = Check.told("law lose (1 + speed) * 2;law go not count <= 3 and step or 1;");
        Check.same("knots: brackets are none", x.count(3), 5 + 8);
    }

    private static void namesAndNoOthers() {
        Check.of("NAME: speed swing pull weight place step count");
        for (String name : new String[] {"speed", "swing", "pull", "weight", "place", "step", "count"}) {
            Check.fine("law go " + name + ";", 1);
            Check.fine("law lose " + name + "*" + name + ";", 1);
        }
        for (String other : new String[] {"phase", "drive", "start", "wall", "beam", "clock", "law", "may", "hang", "lose",
            "go", "x", "speeds", "spee"}) {
            Check.refused("law go " + other + ";", 1, 7);
            Check.refused("law go 1+" + other + ";", 1, 9);
        }
    }

    private static void signsOfTwoParts() {
        Check.of("E: a = (or > behind <) right behind < or > belongs to it");
        for (String sign : new String[] {"<=", ">=", "<>"}) {
            Check.fine("law go 1" + sign + "2;", 1);
            String apart = "law go 1" + sign.charAt(0) + " " + sign.charAt(1) + "2;";
            Check.refused(apart, 1, 10);
            Check.refused(apart.replace(" " + sign.charAt(1), "\n" + sign.charAt(1)), 1, 10);
        }
        for (String none : new String[] {"=<", "=>", "><", "==", "<<", ">>"}) {
            Check.refused("law go 1" + none + "2;", 1, 9);
        }
        for (String none : new String[] {"<==", ">==", "<>=", "<=>", "<>>", ">=>", ">=<", "<=<", "<><"}) {
            Check.refused("law go 1" + none + "2;", 1, 10);
        }
    }

    private static void oneComparisonOnly() {
        Check.of("C: S [ ( < | <= | = | <> | >= | > ) S ]");
        String[] signs = {"<", "<=", "=", "<>", ">=", ">"};
        for (String one : signs) {
            for (String other : signs) {
                int at = 8 + one.length() + 1;
                Check.refused("law go 1" + one + "2" + other + "3;", 1, at);
                Check.refused("law go 1" + one + "2*3" + other + "4;", 1, at + 2);
                Check.refused("law go not 1" + one + "2+3" + other + "4;", 1, at + 6);
                Check.refused("law go (1" + one + "2)" + one + "3" + other + "4;", 1, at + 3 + one.length());
                Check.fine("law go (1" + one + "2)" + other + "3;", 1);
                Check.fine("law go 1" + one + "(2" + other + "3);", 1);
                Check.fine("law go 1" + one + "2 or 3" + other + "4 and 5" + one + "6;", 1);
            }
        }
    }

    private static void notWhereABBegins() {
        Check.of("B: not B | C");
        Check.fine("law go not 1;", 1);
        Check.fine("law go not not not 1;", 1);
        Check.fine("law go not 1 < 2;", 1);
        Check.fine("law go 1 and not 2 or not 3;", 1);
        Check.fine("law go (not 1) + (not 2);", 1);
        Check.fine("law go not (not 1 and not 2);", 1);
        for (String sign : new String[] {"+", "-", "*", "/", "<", "<=", "=", "<>", ">=", ">"}) {
            Check.refused("law go 1" + sign + "not 2;", 1, 8 + sign.length());
            Check.refused("law go not 1" + sign + "not 2;", 1, 12 + sign.length());
            Check.fine("law go 1" + sign + "(not 2);", 1);
        }
        Check.refused("law go 1 not;", 1, 9);
        Check.refused("law go not;", 1, 10);
        Check.refused("law go (not);", 1, 11);
    }

    private static void somethingOnBothSides() {
        Check.of("E: a sign has something on both sides");
        for (String sign : new String[] {"+", "-", "*", "/", "<", "<=", "=", "<>", ">=", ">", "and", "or"}) {
            Check.refused("law go " + sign + " 1;", 1, 7);
            Check.refused("law go 1 " + sign + ";", 1, 9 + sign.length());
            Check.refused("law go 1 " + sign, 1, 9 + sign.length());
            Check.refused("law go (1 " + sign + ");", 1, 10 + sign.length());
            Check.refused("law go (" + sign + " 1);", 1, 8);
            Check.refused("law go 1 " + sign + " + 2;", 1, 10 + sign.length());
            Check.refused("law go not " + sign + " 2;", 1, 11);
        }
        Check.refused("law go;", 1, 6);
        Check.refused("law go 1 1;", 1, 9);
        Check.refused("law go speed 1;", 1, 13);
        Check.refused("law go 1 speed;", 1, 9);
        Check.refused("law go speed speed;", 1, 13);
    }

    private static void brackets() {
        Check.of("P: '(' E ')'");
        Check.refused("law go ();", 1, 8);
        Check.refused("law go (1;", 1, 9);
        Check.refused("law go (1", 1, 9);
        Check.refused("law go 1);", 1, 8);
        Check.refused("law go );", 1, 7);
        Check.refused("law go (1));", 1, 10);
        Check.refused("law go (1)(2);", 1, 10);
        Check.refused("law go (1) 2;", 1, 11);
        Check.refused("law go 1 (2);", 1, 9);
        Check.refused("law go ((1);", 1, 11);
        Check.refused("law go (1;);", 1, 9);
        Check.fine("law go ((1));", 1);
        Check.fine("law go (((1)+2)*3);", 1);
        // what a faulty law leaves open or waiting is no part of the next
        BeamClocks x = new BeamClocks();
        for (String faulty : new String[] {"law go (((1;", "law go 1+", "law go not 2*(3-", "law lose 1 or 2 and 3<4+5*"}) {
            Check.same(faulty, Check.tell(x, faulty), -1);
            Check.same("behind " + faulty, Check.tell(x, "law go ((((((((1))))))));law lose 2;"), 2);
            Check.same("knots behind " + faulty, x.count(3), 2);
        }
    }

    private static void aLawHasAKindAndAnE() {
        Check.of("LINE: law KIND E; KIND: lose | go");
        Check.refused("law;", 1, 3);
        Check.refused("law 1;", 1, 4);
        Check.refused("law x 1;", 1, 4);
        Check.refused("law speed 1;", 1, 4);
        Check.refused("law lose;", 1, 8);
        Check.refused("law lose go 1;", 1, 9);
        Check.refused("lose 1;", 1, 0);
        Check.refused("go 1;", 1, 0);
    }
}
