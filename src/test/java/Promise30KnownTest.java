/** Promise 30: known. */
public final class Promise30KnownTest {
    private static final String FREE = "beam b 0 0;clock x b 0 1 10;clock y b 1 2 20;";

    public static void main(String[] args) {
        ordinary();
        noSuchN();
        fromNoneToAll();
        alsoThoseToCome();
        ofTheseOnly();
        Check.end();
    }

    private static void ordinary() {
        BeamClocks x = Check.told(FREE);
        Check.yes("known(0)", x.known(0));
        x.heard(5, 0, true);
        Check.same("by none", x.fits(), 1);
        Check.same("count", x.count(6), 0);
        Check.yes("known(1)", x.known(1));
        Check.same("by one", x.fits(), 0);
        Check.no("known(2)", x.known(2));
        Check.no("known(-2)", x.known(-2));
        x.strike(0);
        Check.same("the strike is not one of these", x.fits(), 0);
        Check.yes("known(-1)", x.known(-1));
        Check.same("by all", x.fits(), 1);
        Check.same("how many there are", x.count(6), 2);
        x.heard(6, 0, true);
        Check.same("also those to come", x.fits(), 0);
        Check.same("how many there are now", x.count(6), 3);
        x.keep();
        x.known(2);
        x.back();
        Check.same("an image does not keep it", x.count(6), 2);
    }

    private static void noSuchN() {
        Check.of("promise 30: false: no such n");
        Twins.unchanged("known(-2)", x -> x.known(-2) ? 1 : 0, 0);
        Twins.unchanged("one more than there are", x -> x.known(5) ? 1 : 0, 0);
        for (int far : Twins.FAR) {
            Twins.unchanged("known(" + far + ")", x -> x.known(far) ? 1 : 0, 0);
        }
        BeamClocks x = new BeamClocks();
        Check.no("1 of none", x.known(1));
        Check.yes("0 of none", x.known(0));
        for (int i = 0; i < 40; i++) {
            x.heard(i, -1, false);
        }
        Check.yes("40 of 40", x.known(40));
        Check.same("by 40", x.count(6), 40);
        Check.no("41 of 40", x.known(41));
        Check.same("by 40 still", x.count(6), 40);
    }

    private static void fromNoneToAll() {
        Check.of("promise 30: KNOWN by n from now on");
        BeamClocks x = Check.told(FREE);
        x.heard(49, 1, true);
        x.heard(49, 0, false);
        x.heard(49, 0, true);
        x.heard(49, 1, true);
        int[] fits = {1, 1, 1, 0, 0};
        for (int n = 0; n <= 4; n++) {
            Check.yes("known(" + n + ")", x.known(n));
            Check.same("by " + n, x.count(6), n);
            Check.same("fits by " + n, x.fits(), fits[n]);
        }
        Check.yes("and back", x.known(2));
        Check.same("fits by 2", x.fits(), 1);
    }

    private static void alsoThoseToCome() {
        Check.of("promise 30: -1: by all, also those to come");
        BeamClocks x = Check.told(FREE);
        x.heard(49, 1, true);
        Check.yes("known(1): all there are, not those to come", x.known(1));
        x.heard(49, 0, true);
        Check.same("the second isn't known", x.fits(), 1);
        Check.same("by 1", x.count(6), 1);
        Check.yes("known(-1)", x.known(-1));
        Check.same("the second is known", x.fits(), 0);
        Check.same("by 2", x.count(6), 2);
        x.strike(1);
        Check.same("the strike to come is known", x.fits(), 1);
        Check.same("by 3", x.count(6), 3);
        Check.yes("known(0)", x.known(0));
        x.heard(3, 0, true);
        Check.same("none is known", x.fits(), 1);
        Check.same("by 0", x.count(6), 0);
    }

    private static void ofTheseOnly() {
        Check.of("==== 3: KNOWN by n: the first n that aren't STRUCK by one of these");
        BeamClocks x = Check.told(FREE);
        x.heard(5, 0, true);
        x.strike(0);
        x.strike(1);
        int[] fits = {1, 0, 1, 0};
        for (int n = 0; n <= 3; n++) {
            x.known(n);
            Check.same("by " + n, x.fits(), fits[n]);
        }
    }
}
