/** Promise 9: what an E is worth: NAMES, signs, ERRORS. */
public final class Promise09LawsTest {
    /** 10 to the 12. */
    private static final String LIMIT = "1000*1000*1000*1000";

    public static void main(String[] args) {
        expressions();
        upTo10ToThe12();
        belowZeroToo();
        productsBeyondALong();
        errorsInParts();
        dividedTowards0();
        whatIsntZeroIsAs1();
        whatBindsMoreClosely();
        notOfAWholeC();
        namesInALaw();
        pullByAThousandCut();
        Check.end();
    }

    /** By go's E a clock without pulls goes; speed 40 by an error. */
    private static void worth(String e, int want) {
        BeamClocks x = Check.told("beam b 0 0;law go " + e + ";clock x b 7 3 40 swing 600;");
        x.steps(1);
        Check.same("go's E " + e, Check.look(x, 0, 4), want);
    }

    private static void expressions() {
        worth("1+2*3", 7);
        worth("(1+2)*3", 9);
        worth("10-3-2", 5);
        worth("60/3/2", 10);
        worth("20/3", 6);
        worth("50+(0-20)/3", 44);
        worth("2*3<7", 1);
        worth("7/0", 40);
        worth("0*(1/0)", 40);
        worth("1 or 1/0", 40);
        worth("0 and 1/0", 40);
        worth("not 0", 1);
        worth("not 5", 0);
        worth("not 0 + 5", 0);
        worth("not 1 < 0", 1);
        worth("not 0 and 0", 0);
        worth("not not 7", 1);
        worth("2<3", 1);
        worth("3<3", 0);
        worth("3<=3", 1);
        worth("3=3", 1);
        worth("3<>3", 0);
        worth("2<>3", 1);
        worth("3>=4", 0);
        worth("4>=4", 1);
        worth("4>3", 1);
        worth("3>3", 0);
        worth("2 or 0", 1);
        worth("0 or 0", 0);
        worth("2 and 4", 1);
        worth("1 or 0 and 0", 1);
        worth("1+1=2 and 3>2", 1);
        worth("5+(3>2)", 6);
        worth("place", 7);
        worth("weight", 3);
        worth("speed", 40);
        worth("swing/10", 60);
        worth("step", 0);
        worth("count", 0);
        worth("pull", 0);
        worth("99", 99);
        worth("100", 99);
        worth("0-5", 0);
        String limit = "9999*9999*9999+9999*9999*3+9999*3";
        worth(limit + "+1", 99);
        worth(limit + "+2", 40);
        worth("(" + limit + "+2)*0+7", 40);
        worth("0-(" + limit + ")-1", 0);
        worth("0-(" + limit + ")-2", 40);
        worth("(" + limit + ")*(" + limit + ")", 40);
        worth("(" + limit + "+1)*(0-1)+(" + limit + "+1)+3", 3);
        worth("9999*9999*9999*9999*9999*9999", 40);
        // 2 to the 32 times itself is 0 in a long that goes round
        worth("(4096*4096*256)*(4096*4096*256)+5", 40);
        worth("(0-4096*4096*256)*(4096*4096*256)+5", 40);
    }

    private static void upTo10ToThe12() {
        Check.of("==== 2: ERROR: a value above 10 to the 12");
        worth(LIMIT + "/(" + LIMIT + ")", 1);
        worth("(" + LIMIT + "=" + LIMIT + ")*9", 9);
        worth(LIMIT + "+0", 99);
        worth(LIMIT + "+1", 40);
        worth("1+" + LIMIT, 40);
        worth(LIMIT + "+1-1", 40);
        worth("(" + LIMIT + "-1)+1", 99);
        worth("(" + LIMIT + "-1)+2", 40);
        worth(LIMIT + "*2", 40);
        worth(LIMIT + "*1", 99);
        worth("(" + LIMIT + "*2)*0+5", 40);
        worth("(" + LIMIT + "+1>0)+5", 40);
        worth("not(" + LIMIT + "+1)", 40);
        worth("1 or " + LIMIT + "+1", 40);
        worth("0 and " + LIMIT + "+1", 40);
        worth("0*(" + LIMIT + "-0)+6", 6);
    }

    private static void belowZeroToo() {
        Check.of("==== 2: ERROR: a value below 0 by more than that");
        worth("0-" + LIMIT, 0);
        worth("0-" + LIMIT + "-1", 40);
        worth("0-1-" + LIMIT, 40);
        worth("0-" + LIMIT + "+0", 0);
        worth("(0-" + LIMIT + ")*1+" + LIMIT + "+7", 7);
        worth("(0-" + LIMIT + ")*2+" + LIMIT + "+7", 40);
        worth("(0-" + LIMIT + ")*(0-1)", 99);
        worth("(0-" + LIMIT + "-1)*(0-1)", 40);
        worth("(0-" + LIMIT + ")/(0-1)", 99);
    }

    private static void productsBeyondALong() {
        Check.of("==== 2: VALUES are longs; a product that goes round is above 10 to the 12 all the same");
        // 2 to the 16 .. 39, so that products come back as 0 or small
        String[] powers = new String[] {"4096*16", "4096*256", "4096*4096", "4096*4096*16", "4096*4096*256", "4096*4096*4096",
            "4096*4096*4096*8"};
        int[] exponents = {16, 20, 24, 28, 32, 36, 39};
        for (int i = 0; i < powers.length; i++) {
            for (int j = 0; j < powers.length; j++) {
                boolean over = exponents[i] + exponents[j] > 39;
                worth("(" + powers[i] + ")*(" + powers[j] + ")*0+5", over ? 40 : 5);
                worth("(0-" + powers[i] + ")*(" + powers[j] + ")*0+5", over ? 40 : 5);
                worth("(0-" + powers[i] + ")*(0-" + powers[j] + ")*0+5", over ? 40 : 5);
            }
        }
        worth("(" + LIMIT + ")*(" + LIMIT + ")", 40);
        worth("(0-" + LIMIT + ")*(" + LIMIT + ")", 40);
        worth("(" + LIMIT + ")*0+3", 3);
        worth("0*(" + LIMIT + ")+3", 3);
    }

    private static void errorsInParts() {
        Check.of("==== 2: ERROR: / by 0; both sides are worked out");
        worth("1/0", 40);
        worth("0/0", 40);
        worth("1/(1-1)", 40);
        worth("1/count", 40);
        worth("0/1", 0);
        worth("1/0*0", 40);
        worth("0*(1/0)", 40);
        worth("1 or 1/0", 40);
        worth("1/0 or 1", 40);
        worth("0 and 1/0", 40);
        worth("1/0 and 0", 40);
        worth("not 1/0", 40);
        worth("1/0 = 1/0", 40);
        worth("1/(1/2)", 40);
    }

    private static void dividedTowards0() {
        Check.of("==== 2: / is cut towards 0");
        worth("7/2", 3);
        worth("50+(0-7)/2", 47);
        worth("50+7/(0-2)", 47);
        worth("50+(0-7)/(0-2)", 53);
        worth("50+(0-1)/2", 50);
        worth("50+1/(0-2)", 50);
        worth("6/3", 2);
        worth("9999/9998", 1);
        worth("9998/9999", 0);
    }

    private static void whatIsntZeroIsAs1() {
        Check.of("==== 2: comparisons, and, or, not are 1 or 0 (what isn't 0 is as 1)");
        worth("(0-5) and 7", 1);
        worth("(0-5) or 0", 1);
        worth("0 or (0-5)", 1);
        worth("0 and (0-5)", 0);
        worth("not (0-5)", 0);
        worth("not 0", 1);
        worth("not not (0-5)", 1);
        worth("(7 and 9)+(7 or 0)+(not 0)+(1<2)", 4);
        worth("(7 and 0)+(0 or 0)+(not 7)+(2<1)", 0);
        String[] signs = {"<", "<=", "=", "<>", ">=", ">"};
        int[][] due = {{1, 0, 0}, {1, 1, 0}, {0, 1, 0}, {1, 0, 1}, {0, 1, 1}, {0, 0, 1}};
        for (int i = 0; i < signs.length; i++) {
            worth("4" + signs[i] + "5", due[i][0]);
            worth("5" + signs[i] + "5", due[i][1]);
            worth("6" + signs[i] + "5", due[i][2]);
            worth("(0-6)" + signs[i] + "(0-5)", due[i][0]);
            worth("(0-1)" + signs[i] + "0", due[i][0]);
            worth("0" + signs[i] + "(0-1)", due[i][2]);
        }
    }

    private static final String[][] BY_CLOSENESS = {{" or "}, {" and "}, {"<", "<=", "=", "<>", ">=", ">"}, {"+", "-"},
        {"*", "/"}};

    private static int worthOf(String e) {
        BeamClocks x = Check.told("beam b 0 0;law go 50+(" + e + ");clock x b 0 1 99;");
        x.steps(1);
        return Check.look(x, 0, 4);
    }

    private static void whatBindsMoreClosely() {
        Check.of("Terms: E of A, A of B, B of C, C of S, S of T, T of P; of alike ones the first goes first");
        for (int i = 0; i < BY_CLOSENESS.length; i++) {
            for (int j = 0; j < BY_CLOSENESS.length; j++) {
                for (String one : BY_CLOSENESS[i]) {
                    for (String other : BY_CLOSENESS[j]) {
                        // 1 < 2 < 3 is no C
                        for (int k = 0; k < 8 && !(i == 2 && j == 2); k++) {
                            int a = new int[] {0, 7, 0, 7, 1, 9, 2, 3}[k];
                            int b = new int[] {3, 3, 1, 0, 1, 4, 2, 1}[k];
                            int c = new int[] {2, 2, 0, 1, 1, 2, 5, 3}[k];
                            String due = i >= j ? "(" + a + one + b + ")" + other + c : a + one + "(" + b + other + c + ")";
                            String e = a + one + b + other + c;
                            Check.same(e + " as " + due, worthOf(e), worthOf(due));
                        }
                    }
                }
            }
        }
        worth("7-2<6", 1);
        worth("9-6-2", 1);
        worth("64/8/2", 4);
        worth("64/8*2", 16);
        worth("3*8/2", 12);
        worth("10-2+3", 11);
        worth("1 or 0 and 0", 1);
        worth("0 and 0 or 1", 1);
        worth("2+3*4-5", 9);
        worth("2=1+1 and 3-1>1", 1);
    }

    private static void notOfAWholeC() {
        Check.of("Terms: B: not B | C");
        for (int i = 0; i < BY_CLOSENESS.length; i++) {
            for (String sign : BY_CLOSENESS[i]) {
                for (int a = 0; a <= 2; a++) {
                    for (int b = 1; b <= 2; b++) {
                        String due = i >= 2 ? "not (" + a + sign + b + ")" : "(not " + a + ")" + sign + b;
                        String e = "not " + a + sign + b;
                        Check.same(e + " as " + due, worthOf(e), worthOf(due));
                        Check.same("not " + e, worthOf("not " + e), worthOf(due.replace("not ", "not not ")));
                    }
                }
            }
        }
        worth("not 0 and 0", 0);
        worth("not 1 or 1", 1);
        worth("not 0+1", 0);
        worth("not 2<1", 1);
    }

    private static void namesInALaw() {
        Check.of("==== 2: NAMES: speed; swing (in go's E behind the loss); weight; place; step: t; count");
        BeamClocks x = Check.told("beam b 0 0;law lose swing / 2;law go swing / 10;clock x b 0 1 1 swing 800 drive 20;");
        x.steps(1);
        // lose's E sees 800, go's E 800 and 20 less 400
        Check.same("swing", Check.look(x, 0, 5), 420);
        Check.same("by a tenth of it", Check.look(x, 0, 4), 42);
        BeamClocks y = Check.told("beam b 0 0;law lose step;law go count * 10 + 90;clock x b 30 9 99 phase 950;");
        y.steps(1);
        Check.same("step 0", Check.look(y, 0, 5), 500);
        Check.same("count 0", Check.look(y, 0, 4), 40);
        y.steps(1);
        Check.same("step 1", Check.look(y, 0, 5), 499);
        Check.same("count 1: 99 at most", Check.look(y, 0, 4), 139);
        y.hang(0, 0, 0);
        y.steps(1);
        Check.same("step 2", Check.look(y, 0, 5), 497);
        BeamClocks ends = Check.told("beam b 0 0;law go (place = 30) + (weight = 9) * 2 + (speed = 99) * 4;"
                + "clock x b 30 9 99;clock y b 0 1 1;");
        ends.steps(1);
        Check.same("the greatest", Check.look(ends, 0, 4), 7);
        Check.same("the least", Check.look(ends, 1, 4), 0);
    }

    private static void pullByAThousandCut() {
        Check.of("==== 2: NAMES: pull: PULL by 1000, cut");
        // pull of x is give times 100 or 250 by sign
        int[][] due = {{10, 100, 1}, {9, 100, 0}, {19, 100, 1}, {20, 100, 2}, {9, -100, 0}, {10, -100, -1}, {19, -100, -1},
            {20, -100, -2}, {9, 111, 0}, {9, -111, 0}, {27, 37, 0}, {27, 74, 1}, {99, 250, 24}, {99, -250, -24}};
        for (int[] row : due) {
            BeamClocks x = Check.told("beam b " + row[0] + " 0;law lose (place = 0) * (pull + 100);law go 0;clock x b 0 1 1;"
                    + "clock y b 1 1 1 phase " + Math.floorMod(row[1], 1000) + ";");
            x.steps(1);
            Check.same("pull " + row[0] * row[1] + " by 1000", 500 - Check.look(x, 0, 5) - 100, row[2]);
        }
    }
}
