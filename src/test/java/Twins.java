import java.util.ArrayList;
import java.util.List;

/**
 * Two objects with the same calls behind them: one is asked once more, then both are asked all that can be seen of them.
 * So a call that is refused, or only asks, shows whether it has changed anything.
 */
final class Twins {
    interface Calls {
        void on(BeamClocks x);
    }

    interface Call {
        long on(BeamClocks x);
    }

    /** Numbers that are none of any kind, on both sides. */
    static final int[] FAR = {Integer.MIN_VALUE, Integer.MIN_VALUE + 1, -65536, -1000, 65536, Integer.MAX_VALUE - 1,
        Integer.MAX_VALUE};

    private static final String RICH = "beam a 90 7;beam b 60 9;wall 20;law lose 1;law go speed + count;"
            + "clock x a 3 2 41 drive 2;clock y a 5 1 50 phase 200;clock z b 3 9 37 start 25;may m hang x b 9;may n;";

    private Twins() {
    }

    /** Every kind of thing that an object can have, each of them there. */
    static void rich(BeamClocks x) {
        Check.tell(x, RICH);
        Check.tell(x, "wall 100;");
        x.steps(30);
        x.keep();
        x.steps(20);
        x.hang(0, 1, 8);
        x.hang(1, 0, 30);
        x.stop(2);
        x.heard(23, 0, true);
        x.heard(16, -1, false);
        x.strike(0);
        x.heard(7, 1, false);
        x.known(3);
        Check.feed(x, "wall 5;may q;");
    }

    static BeamClocks made(Calls ahead) {
        BeamClocks x = new BeamClocks();
        ahead.on(x);
        return x;
    }

    /** Asks that a call has this answer, and changes nothing of an object with these calls behind it. */
    static void unchanged(String what, Calls ahead, Call call, long answer) {
        BeamClocks x = made(ahead);
        Check.same(what, call.on(x), answer);
        alike(what, x, made(ahead));
    }

    static void unchanged(String what, Call call, long answer) {
        unchanged(what, Twins::rich, call, answer);
    }

    /** Asks all that can be seen of both, which changes them, and that it is the same. */
    static void alike(String what, BeamClocks one, BeamClocks other) {
        List<Long> left = all(one);
        List<Long> right = all(other);
        Check.same(what + ": how much is seen", left.size(), right.size());
        for (int i = 0; i < left.size() && i < right.size(); i++) {
            if (!left.get(i).equals(right.get(i))) {
                Check.same(what + ": what is seen, number " + i, left.get(i), right.get(i));
                return;
            }
        }
    }

    private static List<Long> all(BeamClocks x) {
        List<Long> seen = new ArrayList<>();
        seen.add((long) x.fault(0));
        seen.add((long) x.fault(1));
        now(x, seen);
        asked(x, seen);
        int left = x.count(7);
        for (int i = 0; i <= left; i++) {
            seen.add((long) x.undo());
            looks(x, seen);
        }
        seen.add((long) x.steps(3));
        now(x, seen);
        seen.add((long) x.back());
        now(x, seen);
        // the tape comes last: what is on it may be a text
        int taped = x.feed(0x6d617920, 0x74773b20, 0x20202020, 0x20202020, 0x20202020);
        seen.add((long) taped);
        seen.add((long) x.text(taped < 0 ? 700 : taped));
        seen.add((long) x.fault(0));
        seen.add((long) x.fault(1));
        counts(x, seen);
        return seen;
    }

    private static void counts(BeamClocks x, List<Long> seen) {
        for (int what = 0; what <= 9; what++) {
            seen.add((long) x.count(what));
        }
    }

    private static void looks(BeamClocks x, List<Long> seen) {
        for (int clock = 0; clock < x.count(1); clock++) {
            for (int what : new int[] {0, 1, 4, 5, 7}) {
                seen.add((long) Check.look(x, clock, what));
            }
        }
    }

    private static void now(BeamClocks x, List<Long> seen) {
        counts(x, seen);
        looks(x, seen);
        int last = x.count(4) - 1;
        for (int clock = 0; clock < x.count(1); clock++) {
            seen.add((long) Check.look(x, clock, 2));
            seen.add((long) Check.look(x, clock, 3));
            seen.add((long) Check.look(x, clock, 6));
            seen.add((long) x.pull(clock));
            seen.add((long) x.was(clock, last));
            seen.add((long) x.was(clock, last + 1));
            seen.add((long) x.stroke(clock, 1));
        }
        seen.add((long) x.reach(0, 1));
        seen.add((long) x.since(0, 1, 300, false));
        seen.add((long) x.groups(100));
        seen.add((long) x.falls());
        seen.add((long) x.fall(0));
    }

    /** What is asked of runs and of what was heard. */
    private static void asked(BeamClocks x, List<Long> seen) {
        seen.add((long) x.run(0, 70, 1));
        seen.add((long) x.run(1, 70, 0));
        seen.add((long) x.run(1, 70, 2));
        seen.add((long) x.own(0, 70));
        seen.add((long) x.least(1, 40, 0, 0));
        seen.add((long) x.order(60, 5, 200, 0));
        seen.add((long) x.tried(1, 0, 70, 0));
        seen.add((long) x.fits());
        seen.add(x.known(x.count(5) - 1) ? 1L : 0L);
        seen.add((long) x.fits());
        seen.add((long) x.heard(5, -1, false));
        seen.add((long) x.strike(0));
        seen.add((long) x.count(6));
        seen.add((long) x.fits());
    }
}
