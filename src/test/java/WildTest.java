import java.util.Random;

/** Any arguments in any state: nothing is thrown but what look() promises, and every call ends. */
public final class WildTest {
    private static final int[] EDGES = {-2147483648, -1000, -3, -2, -1, 0, 1, 2, 3, 5, 6, 7, 9, 30, 31, 40, 60, 61, 99,
        100, 300, 301, 500, 501, 999, 1000, 1001, 1999, 2000, 2001, 4000, 2147483647};
    private static final String[] PARTS = {"beam ", "clock ", "may ", "hang ", "law ", "lose ", "go ", "wall ", "a ", "b ",
        "c ", "x ", "1 ", "2 ", "7 ", "50 ", "99 ", ";", ";", "(", ")", "+", "<", "=", ">", "not ", "and ", "or ", "speed ",
        "swing ", "phase ", "start ", "beam a 99 3;", "beam b 50 1;", "clock x a 3 1 50;", "clock y a 4 2 60 phase 300;",
        "clock z b 3 9 70 start 5;", "law go speed/count;", "law lose 7;", "may m hang x b 9;", "wall 40;"};

    private final Random random;
    private BeamClocks x = new BeamClocks();

    private WildTest(long seed) {
        random = new Random(seed);
    }

    public static void main(String[] args) {
        for (int seed = 0; seed < 300; seed++) {
            WildTest test = new WildTest(seed);
            for (int call = 0; call < 512; call++) {
                test.one("seed " + seed + " call " + call);
            }
        }
        Check.end();
    }

    private int any() {
        switch (random.nextInt(4)) {
            case 0: return EDGES[random.nextInt(EDGES.length)];
            case 1: return random.nextInt();
            default: return random.nextInt(7);
        }
    }

    private void one(String where) {
        int which = random.nextInt(40);
        boolean threw = false;
        try {
            if (which >= 36) {
                text();
            } else {
                call(which);
            }
        } catch (IndexOutOfBoundsException | java.util.NoSuchElementException e) {
            threw = which != 4;
        } catch (RuntimeException e) {
            threw = true;
        }
        Check.no(where + ", kind " + which + " threw", threw);
    }

    private static final String WHOLE = "beam a 99 3;beam b 50 1;wall 40;clock x a 3 1 50;clock y a 4 2 60 phase 300;"
            + "clock z b 3 9 70 start 5;clock v b 4 9 99 phase 999 swing 999 drive 99;law go speed / count + pull;"
            + "law lose (step > 50) * 7 - swing * swing * swing * swing * swing;may m hang x b 9;may n;";

    private void text() {
        if (random.nextBoolean()) {
            Check.tell(x, WHOLE);
            return;
        }
        StringBuilder text = new StringBuilder(random.nextBoolean() ? "beam a 99 3;beam b 50 1;clock x a 3 1 50;" : "");
        int parts = random.nextInt(30);
        for (int i = 0; i < parts; i++) {
            text.append(PARTS[random.nextInt(PARTS.length)]);
        }
        Check.tell(x, text.toString());
    }

    private void call(int which) {
        boolean yes = random.nextBoolean();
        switch (which) {
            case 0: x.feed(any(), any(), any(), any(), any()); break;
            case 1: x.text(any()); break;
            case 2: x.fault(any()); break;
            case 3: x.named(any(), any()); break;
            case 4: x.look(any(), any()); break;
            case 5: x.reach(any(), any()); break;
            case 6: x.pull(any()); break;
            case 7: x.steps(any()); break;
            case 8: x.was(any(), any()); break;
            case 9: x.stroke(any(), any()); break;
            case 10: x.apart(any(), any()); break;
            case 11: x.since(any(), any(), any(), yes); break;
            case 12: x.groups(any()); break;
            case 13: x.group(any(), any()); break;
            case 14: x.falls(); break;
            case 15: x.fall(any()); break;
            case 16: x.hang(any(), any(), any()); break;
            case 17: x.stop(any()); break;
            case 18: x.undo(); break;
            case 19: x.run(any(), any(), any()); break;
            case 20: x.own(any(), any()); break;
            case 21: x.least(any(), any(), any(), any()); break;
            case 22: x.mend(any(), any(), any()); break;
            case 23: x.order(any(), any(), any(), any()); break;
            case 24: x.due(any(), any()); break;
            case 25: x.gain(any(), any(), any()); break;
            case 26: x.heard(any(), any(), yes); break;
            case 27: x.strike(any()); break;
            case 28: x.known(any()); break;
            case 29: x.fits(); break;
            case 30: x.tried(any(), any(), any(), any()); break;
            case 31: x.chance(any(), any(), any()); break;
            case 32: x.keep(); break;
            case 33: x.back(); break;
            case 34: x.count(any()); break;
            default: x = random.nextInt(20) == 0 ? new BeamClocks() : x; break;
        }
    }
}
