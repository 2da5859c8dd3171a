import java.util.Random;

/** Random texts and calls, asked of the class and of the slow oracle: every answer must be the same. */
public final class OracleTest {
    private static final String[] BEAMS = {"a", "b", "beamsx"};
    private static final String[] CLOCKS = {"p", "q", "r", "s", "tick", "zzzzzz", "clocks", "a"};
    private static final String[] NAMES = {"speed", "swing", "pull", "weight", "place", "step", "count"};
    private static final String[] SIGNS = {"+", "-", "*", "/"};
    private static final String[] COMPARED = {"<", "<=", "=", "<>", ">=", ">"};
    private static final String[] ODD = {";", "beam", "clock", "may", "hang", "law", "wall", "lose", "go", "x",
        "sevenss", "0", "9999", "10000", "31", "100", "(", ")", "not", "and", "or", "<", "=", ">", "<>", "<=", "> =",
        "+", "#", "A", "\n", "\t", "phase", "drive", "swing", "start", "00000000000000000000001", "99999999999999",
        "speed", "\u00e9"};

    private final Random random;
    private final BeamClocks real = new BeamClocks();
    private final Oracle slow = new Oracle();
    private final StringBuilder told = new StringBuilder();

    private OracleTest(long seed) {
        random = new Random(seed);
    }

    public static void main(String[] args) {
        int games = args.length > 1 ? Integer.parseInt(args[1]) : 700;
        for (int seed = 0; seed < games && Check.wrongSoFar() == 0; seed++) {
            new OracleTest(seed).play(seed);
        }
        for (int seed = 0; seed < games / 4 && Check.wrongSoFar() == 0; seed++) {
            new OracleTest(1000000 + seed).search(1000000 + seed);
        }
        Check.end();
    }

    /** Few clocks that pull hard, so that moving and starting otherwise tells; every what is asked. */
    private void search(int seed) {
        int beams = 1 + upTo(1);
        int clocks = 2 + upTo(1);
        StringBuilder s = new StringBuilder();
        for (int i = 0; i < beams; i++) {
            s.append("beam ").append(BEAMS[i]).append(' ').append(60 + upTo(39)).append(' ').append(upTo(30)).append(';');
        }
        for (int i = 0; i < clocks; i++) {
            s.append("clock ").append(CLOCKS[i]).append(' ').append(BEAMS[0]).append(' ').append(i * (1 + upTo(3)))
                    .append(' ').append(1 + upTo(8)).append(' ').append(20 + upTo(79)).append(" phase ")
                    .append(upTo(999)).append(';');
        }
        if (upTo(2) == 0) {
            s.append("law go speed - place * ").append(upTo(3)).append(';');
        }
        offer(s.toString());
        for (int i = 0; i < 3; i++) {
            int bits = upTo((1 << clocks) - 1);
            int n = 5 + upTo(55);
            int k = upTo(4) == 0 ? 1 : 0;
            int most = 10 + upTo(100);
            int gap = upTo(12);
            int w = upTo(80);
            for (int what = 0; what <= 6; what++) {
                same("game " + seed + " least " + bits + " " + n + " " + k + " " + what,
                        real.least(bits, n, k, what), slow.least(bits, n, k, what));
                same("game " + seed + " order " + most + " " + gap + " " + w + " " + what,
                        real.order(most, gap, w, what), slow.order(most, gap, w, what));
            }
            int clock = upTo(clocks - 1);
            int place = upTo(9);
            same("hang", real.hang(clock, 0, place) ? 1 : 0, slow.hang(clock, 0, place) ? 1 : 0);
        }
        if (Check.wrongSoFar() > 0) {
            System.out.println("game " + seed + ":\n" + told);
        }
    }

    private int upTo(int most) {
        return random.nextInt(most + 1);
    }

    private String of(String[] words) {
        return words[random.nextInt(words.length)];
    }

    private void play(int seed) {
        int texts = 1 + upTo(2);
        for (int i = 0; i < texts; i++) {
            tell();
            int calls = 10 + upTo(50);
            for (int c = 0; c < calls; c++) {
                call(seed);
            }
        }
        if (Check.wrongSoFar() > 0) {
            System.out.println("game " + seed + ":\n" + told);
        }
    }

    private void tell() {
        int broken = upTo(3);
        for (int i = 0; i < broken; i++) {
            offer(spoil(text()));
        }
        offer(text());
    }

    private void offer(String text) {
        String whole = text.length() > 700 ? text.substring(0, 700) : text;
        for (int from = 0; from < whole.length(); from += 20) {
            int[] n = new int[5];
            for (int i = 0; i < 20; i++) {
                n[i / 4] = n[i / 4] << 8 | (from + i < whole.length() ? whole.charAt(from + i) & 255 : 32);
            }
            same("feed", real.feed(n[0], n[1], n[2], n[3], n[4]), slow.feed(n));
        }
        int length = upTo(30) == 0 ? upTo(whole.length() + 30) : whole.length();
        told.append("text ").append(whole).append('\n');
        int answer = slow.text(length);
        same("text " + whole, real.text(length), answer);
        if (answer == -2) {
            same("text again", real.text(whole.length()), slow.text(whole.length()));
        }
        same("fault 0", real.fault(0), slow.fault(0));
        same("fault 1", real.fault(1), slow.fault(1));
        same("knots", real.count(3), slow.count(3));
    }

    private String text() {
        StringBuilder s = new StringBuilder();
        int beams = upTo(20) == 0 ? 0 : 1 + upTo(2);
        boolean smooth = upTo(3) == 0;
        for (int i = 0; i < beams; i++) {
            s.append("beam ").append(BEAMS[i]).append(' ').append(smooth ? 99 : upTo(99)).append(blank())
                    .append(smooth ? upTo(3) : upTo(upTo(1) == 0 ? 10 : 99)).append(';');
        }
        if (upTo(1) == 0) {
            s.append("wall ").append(upTo(99)).append(';');
        }
        if (upTo(2) == 0) {
            s.append("law lose ").append(lose()).append(';');
        }
        int clocks = beams == 0 ? 0 : 1 + upTo(upTo(2) == 0 ? 5 : 3);
        int[] spot = new int[clocks];
        for (int i = 0; i < clocks; i++) {
            boolean free = false;
            while (!free) {
                spot[i] = upTo(beams - 1) * 31 + upTo(upTo(3) == 0 ? 30 : 9);
                free = true;
                for (int j = 0; j < i; j++) {
                    free &= spot[i] != spot[j];
                }
            }
            s.append("clock ").append(CLOCKS[i]).append(' ').append(BEAMS[spot[i] / 31]).append(' ')
                    .append(spot[i] % 31).append(' ').append(1 + upTo(8)).append(blank()).append(1 + upTo(98));
            extras(s);
            s.append(';');
        }
        if (upTo(2) == 0) {
            s.append("law go ").append(go()).append(';');
        }
        mays(s, beams, clocks);
        return s.toString();
    }

    private String blank() {
        return upTo(8) == 0 ? "\n " : " ";
    }

    private void extras(StringBuilder s) {
        if (upTo(1) == 0) {
            s.append(" phase ").append(upTo(999));
        }
        if (upTo(2) == 0) {
            s.append(" drive ").append(upTo(99));
        }
        if (upTo(2) == 0) {
            s.append(" swing ").append(1 + upTo(998));
        }
        if (upTo(2) == 0) {
            s.append(" start ").append(upTo(upTo(1) == 0 ? 20 : 999));
        }
    }

    private void mays(StringBuilder s, int beams, int clocks) {
        int mays = upTo(2) == 0 ? upTo(4) : 0;
        for (int m = 0; m < mays; m++) {
            s.append("may ").append((char) ('a' + m));
            int[] taken = new int[93];
            for (int i = 0; i < clocks; i++) {
                int at = upTo(beams - 1) * 31 + upTo(30);
                if (upTo(1) == 0 && taken[at] == 0) {
                    taken[at] = 1;
                    s.append(" hang ").append(CLOCKS[i]).append(' ').append(BEAMS[at / 31]).append(' ').append(at % 31);
                }
            }
            s.append(';');
        }
    }

    private String lose() {
        switch (upTo(3)) {
            case 0: return String.valueOf(upTo(30));
            case 1: return "(swing > " + upTo(500) + ") * " + upTo(40);
            default: return expression(3);
        }
    }

    private String go() {
        switch (upTo(3)) {
            case 0: return "speed + pull / " + upTo(4);
            case 1: return "speed - swing / 100 + (step / 7 * 7 = step) * " + upTo(9);
            default: return expression(4);
        }
    }

    private String expression(int depth) {
        if (depth == 0 || upTo(5) == 0) {
            return upTo(2) == 0 ? String.valueOf(upTo(upTo(2) == 0 ? 9999 : 12)) : of(NAMES);
        }
        String one = "(" + expression(depth - 1) + ")";
        String other = upTo(1) == 0 ? "(" + expression(depth - 1) + ")" : of(NAMES);
        switch (upTo(5)) {
            case 0: return "not " + one;
            case 1: return one + (upTo(1) == 0 ? " and " : " or ") + other;
            case 2: return one + of(COMPARED) + other;
            case 3: return expression(depth - 1) + of(SIGNS) + expression(0);
            default: return one + of(SIGNS) + other;
        }
    }

    private String spoil(String text) {
        StringBuilder s = new StringBuilder(text);
        int times = 1 + upTo(1);
        for (int i = 0; i < times && s.length() > 0; i++) {
            int at = random.nextInt(s.length());
            switch (upTo(5)) {
                case 0: s.deleteCharAt(at); break;
                case 1: s.setCharAt(at, (char) upTo(255)); break;
                case 2: s.insert(at, of(ODD)); break;
                case 3: s.insert(at, " " + of(ODD) + " "); break;
                case 4: s.insert(s.lastIndexOf(";", at) + 1, of(new String[] {"beam nu 1 1;", "clock nu a 30 1 1;",
                    "may nu;", "wall 3;", "law lose 1;", "law go speed;", "law go " + "not ".repeat(62) + "1;",
                    "law lose ((((((((((1;", "clock nu a 0 1 1;", "may nu hang p a 0 hang p a 1;",
                    "may nu hang p a 0 hang q a 0;"})); break;
                default: s.setLength(at); break;
            }
        }
        return s.toString();
    }

    private void same(String what, long got, long want) {
        Check.same(what, got, want);
    }

    /** Mostly such a number, at times one beside it or far off. */
    private int near(int low, int high) {
        switch (upTo(40)) {
            case 0: return low - 1;
            case 1: return high + 1;
            case 2: return low;
            case 3: return high;
            case 4: return random.nextInt();
            default: return low + upTo(Math.max(0, high - low));
        }
    }

    private int clock() {
        return near(0, slow.text.clocks.size() - 1);
    }

    private int run() {
        return upTo(3) == 0 ? near(0, 2000) : near(0, 100);
    }

    private void call(int seed) {
        int a = clock();
        int b = clock();
        int n = near(0, 500);
        String who = "game " + seed + " ";
        switch (upTo(33)) {
            case 0: same(who + "fault", real.fault(a), slow.fault(a)); break;
            case 1: {
                int what = near(0, 2);
                int letters = Check.letters(upTo(1) == 0 ? of(CLOCKS) : of(BEAMS));
                same(who + "named", real.named(what, letters), slow.named(what, letters));
                break;
            }
            case 2: {
                int what = near(0, 7);
                same(who + "look", Check.look(real, a, what), slow.look(a, what));
                break;
            }
            case 3: same(who + "reach", real.reach(a, b), slow.reach(a, b)); break;
            case 4: same(who + "pull", real.pull(a), slow.pull(a)); break;
            case 5: {
                int most = upTo(5) == 0 ? near(0, 1000) : near(0, 60);
                told.append("steps ").append(most).append('\n');
                same(who + "steps", real.steps(most), slow.steps(most));
                break;
            }
            case 6: {
                int step = near(0, Math.max(0, slow.count(4) - 1));
                same(who + "was", real.was(a, step), slow.was(a, step));
                break;
            }
            case 7: {
                int k = near(0, 10);
                same(who + "stroke", real.stroke(a, k), slow.stroke(a, k));
                break;
            }
            case 8: same(who + "apart", real.apart(a, b), slow.apartNow(a, b)); break;
            case 9: {
                boolean against = random.nextBoolean();
                same(who + "since", real.since(a, b, n, against), slow.since(a, b, n, against));
                break;
            }
            case 10: same(who + "groups", real.groups(n), slow.groups(n)); break;
            case 11: same(who + "group", real.group(a, n), slow.group(a, n)); break;
            case 12: same(who + "falls", real.falls(), slow.falls()); break;
            case 13: {
                int k = near(0, 4);
                same(who + "fall", real.fall(k), slow.fall(k));
                break;
            }
            case 14: case 15: {
                int beam = near(0, slow.text.beams.size() - 1);
                int place = near(0, 30);
                told.append("hang ").append(a).append(' ').append(beam).append(' ').append(place).append('\n');
                same(who + "hang", real.hang(a, beam, place) ? 1 : 0, slow.hang(a, beam, place) ? 1 : 0);
                break;
            }
            case 16: {
                if (upTo(2) == 0) {
                    told.append("stop ").append(a).append('\n');
                    same(who + "stop", real.stop(a) ? 1 : 0, slow.stop(a) ? 1 : 0);
                }
                break;
            }
            case 17: {
                told.append("undo\n");
                same(who + "undo", real.undo(), slow.undo());
                break;
            }
            case 18: {
                int what = near(0, 3);
                int most = run();
                same(who + "run", real.run(a, most, what), slow.run(a, most, what));
                break;
            }
            case 19: {
                int most = run();
                same(who + "own", real.own(a, most), slow.own(a, most));
                break;
            }
            case 20: least(who); break;
            case 21: {
                int most = run();
                int want = near(0, upTo(3) == 0 ? 999 : 20);
                same(who + "mend " + a + " " + most + " " + want, real.mend(a, most, want), slow.mend(a, most, want));
                break;
            }
            case 22: order(who); break;
            case 23: {
                int k = near(0, 60);
                same(who + "due", real.due(a, k), slow.due(a, k));
                same(who + "gain", real.gain(a, b, k), slow.gain(a, b, k));
                break;
            }
            case 24: case 25: heard(who); break;
            case 26: {
                int which = near(0, slow.count(5) - 1);
                same(who + "strike", real.strike(which), slow.strike(which));
                break;
            }
            case 27: {
                int most = near(-1, slow.count(5));
                same(who + "known", real.known(most) ? 1 : 0, slow.known(most) ? 1 : 0);
                break;
            }
            case 28: same(who + "fits", real.fits(), slow.fits()); break;
            case 29: {
                int what = near(0, 5);
                int i = what >= 1 && what <= 3 && upTo(3) > 0 ? 0 : clock();
                int most = run();
                same(who + "tried", real.tried(what, i, most, b), slow.tried(what, i, most, b));
                break;
            }
            case 30: {
                int from = upTo(1) == 0 ? upTo(1000) : random.nextInt();
                int most = near(0, upTo(2) == 0 ? 500 : 60);
                same(who + "chance", real.chance(from, most, n), slow.chance(from, most, n));
                break;
            }
            case 31: {
                told.append("keep\n");
                same(who + "keep", real.keep(), slow.keep());
                break;
            }
            case 32: {
                told.append("back\n");
                same(who + "back", real.back(), slow.back());
                break;
            }
            default: {
                for (int what = -1; what <= 10; what++) {
                    same(who + "count " + what, real.count(what), slow.count(what));
                }
                break;
            }
        }
    }

    private void least(String who) {
        int bits = near(0, (1 << slow.text.clocks.size()) - 1);
        // the slow one needs long for two moves of many, so these are asked with few steps
        int most = slow.text.clocks.size() > 3 ? near(0, 20) : near(0, 60);
        int k = near(0, upTo(2) == 0 ? 99 : 1);
        int what = near(0, 6);
        String call = who + "least " + bits + " " + most + " " + k + " " + what;
        same(call, real.least(bits, most, k, what), slow.least(bits, most, k, what));
    }

    private void order(String who) {
        int most = upTo(3) == 0 && slow.text.clocks.size() < 5 ? near(1, 300) : near(1, 60);
        int gap = upTo(2) == 0 ? near(0, 99) : near(0, 9);
        int w = upTo(1) == 0 ? near(0, 500) : near(0, 60);
        int what = near(0, slow.text.clocks.size());
        String call = who + "order " + most + " " + gap + " " + w + " " + what;
        same(call, real.order(most, gap, w, what), slow.order(most, gap, w, what));
    }

    private void heard(String who) {
        int a = upTo(2) == 0 ? -1 : clock();
        int step = upTo(2) == 0 ? near(0, 1999) : near(0, 60);
        boolean struck = random.nextBoolean();
        int due = slow.due(Math.max(0, a), upTo(9));
        if (upTo(1) == 0 && due >= 0) {
            step = due;
            struck = upTo(5) > 0;
        }
        told.append("heard ").append(step).append(' ').append(a).append(' ').append(struck).append('\n');
        same(who + "heard", real.heard(step, a, struck), slow.heard(step, a, struck));
    }
}
