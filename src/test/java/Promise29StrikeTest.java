/** Promise 29: strike. */
public final class Promise29StrikeTest {
    private static final String FREE = "beam b 0 0;clock x b 0 1 10;clock y b 1 2 20;";

    public static void main(String[] args) {
        ordinary();
        noSuchOneHeard();
        fortyAtMost();
        strikesOfStrikes();
        Check.end();
    }

    private static void ordinary() {
        BeamClocks x = Check.told(FREE);
        Check.same("nothing heard", x.strike(0), -1);
        x.heard(5, 0, true);
        Check.same("it isn't so", x.fits(), 0);
        Check.same("strike -1", x.strike(-1), -1);
        Check.same("strike 1", x.strike(1), -1);
        Check.same("strike 0", x.strike(0), 1);
        Check.same("struck", x.fits(), 1);
        Check.same("the strike struck", x.strike(1), 2);
        Check.same("it counts again", x.fits(), 0);
        Check.same("struck twice", x.strike(0), 3);
        Check.same("one of both holds", x.fits(), 1);
        Check.same("the strike of the strike struck", x.strike(2), 4);
        x.strike(3);
        Check.same("the first strike holds still", x.fits(), 1);
        Check.same("all are heard", x.count(5), 6);
    }

    private static void noSuchOneHeard() {
        Check.of("promise 29: NONE: no such one HEARD");
        Check.same("nothing heard", new BeamClocks().strike(0), -1);
        Twins.unchanged("strike(-1)", x -> x.strike(-1), -1);
        Twins.unchanged("one more than there are", x -> x.strike(4), -1);
        for (int far : Twins.FAR) {
            Twins.unchanged("strike(" + far + ")", x -> x.strike(far), -1);
        }
        BeamClocks x = Twins.made(Twins::rich);
        Check.same("the last one", x.strike(3), 4);
        Check.same("that strike itself", x.strike(4), 5);
        Check.same("none to come", x.strike(6), -1);
        x.text(0);
        Check.same("behind a text nothing is heard", x.strike(0), -1);
    }

    private static void fortyAtMost() {
        Check.of("promise 29: NONE: there are 40");
        BeamClocks x = Check.told(FREE);
        x.heard(5, 0, true);
        for (int i = 1; i < 39; i++) {
            x.heard(i, 0, false);
        }
        Check.same("not so", x.fits(), 0);
        Check.same("the 40th", x.strike(0), 39);
        Check.same("it counts", x.fits(), 1);
        Check.same("a 41st", x.strike(39), -1);
        Check.same("it doesn't count", x.fits(), 1);
        Twins.unchanged("a 41st", y -> {
            Check.tell(y, FREE);
            for (int i = 0; i < 40; i++) {
                y.heard(i, 0, i == 3);
            }
        }, y -> y.strike(3), -1);
    }

    private static void strikesOfStrikes() {
        Check.of("==== 3: a STRIKE may be STRUCK: then it doesn't count; asked from the last one on");
        BeamClocks x = Check.told(FREE);
        x.heard(5, 0, true);
        // each strikes the one ahead: all depends on whether they are odd or even in number
        for (int i = 0; i < 39; i++) {
            Check.same("with " + i + " strikes", x.fits(), i % 2);
            x.strike(i);
        }
        Check.same("with 39 strikes", x.fits(), 1);
        for (int n = 1; n <= 40; n++) {
            x.known(n);
            Check.same("known by " + n, x.fits(), (n - 1) % 2);
        }
        BeamClocks twice = Check.told(FREE);
        twice.heard(5, 0, true);
        twice.strike(0);
        twice.strike(0);
        twice.strike(1);
        Check.same("the second strike holds", twice.fits(), 1);
        twice.strike(2);
        Check.same("none holds", twice.fits(), 0);
        twice.strike(3);
        Check.same("the first holds again", twice.fits(), 1);
        twice.strike(5);
        Check.same("and is struck again", twice.fits(), 0);
    }
}
