/** Promise 31: fits. */
public final class Promise31FitsTest {
    public static void main(String[] args) {
        ordinary();
        theBitBehindAll();
        allFourAndTheText();
        allKnownOnes();
        eachClockOnEachBeam();
        asTheTextHasThem();
        inTheLastStep();
        onlyAsked();
        Check.end();
    }

    private static void ordinary() {
        BeamClocks x = Check.told("beam b 0 0;law go place;clock x b 10 1 1;clock y b 20 1 1;may m hang x b 21;"
                + "may n hang y b 5;may o;");
        Check.same("without any heard", x.fits(), 15);
        x.heard(99, 0, true);
        Check.same("x at 10", x.fits(), 2 | 4 | 8);
        x.heard(49, 1, true);
        Check.same("y at 20", x.fits(), 4 | 8);
        x.heard(50, -1, false);
        Check.same("none in 50", x.fits(), 4 | 8);
        x.heard(49, 0, false);
        Check.same("not x in 49", x.fits(), 4 | 8);
        x.hang(0, 0, 11);
        x.steps(3);
        Check.same("as told, not as they hang now", x.fits(), 4 | 8);
        x.heard(1999, -1, true);
        Check.same("in the last step", x.fits(), 4 | 8);
        x.heard(1999, -1, false);
        Check.same("both at once", x.fits(), 0);
        x.known(0);
        x.heard(0, 0, true);
        Check.same("known by none", x.fits(), 15);
        BeamClocks y = Check.told("beam b 9 1;clock x b 0 1 9;may m hang x b 0;");
        y.heard(111, -1, true);
        Check.same("x by 9 in 111", y.fits(), 3);
    }

    private static void theBitBehindAll() {
        Check.of("==== 3: FITS: MAY (bits; the bit behind all: as the TEXT has them)");
        StringBuilder text = new StringBuilder("beam b 0 0;clock x b 0 1 10;");
        for (int mays = 0; mays <= 4; mays++) {
            BeamClocks x = Check.told(text.toString());
            Check.same("of " + mays + ", nothing heard", x.fits(), (1 << mays + 1) - 1);
            x.heard(98, 0, true);
            Check.same("of " + mays + ", none fits", x.fits(), 0);
            text.append("may ").append((char) ('m' + mays)).append(';');
        }
        Check.same("of no text", new BeamClocks().fits(), 1);
    }

    private static void allFourAndTheText() {
        Check.of("==== 3: FITS: each MAY by itself");
        BeamClocks x = Check.told("beam b 0 0;law go place;clock x b 30 1 1;may m hang x b 10;may n hang x b 20;"
                + "may o hang x b 25;may p hang x b 4;");
        int[][] due = {{99, 3}, {49, 2}, {39, 4}, {249, 15}, {33, 16}};
        for (int[] row : due) {
            x.heard(row[0], 0, true);
            int bits = 0;
            for (int may = 0; may < 5; may++) {
                int speed = new int[] {10, 20, 25, 4, 30}[may];
                boolean struck = (row[0] + 1) * speed / 1000 > row[0] * speed / 1000;
                bits |= struck ? 1 << may : 0;
            }
            Check.same("in " + row[0], x.fits(), bits);
            x.strike(x.count(5) - 1);
        }
        Check.same("all struck", x.fits(), 31);
    }

    private static void allKnownOnes() {
        Check.of("==== 3: FITS: by which all KNOWN ones are so");
        BeamClocks x = Check.told("beam b 0 0;law go place;clock x b 10 1 1;clock y b 20 1 1;may m hang x b 20 hang y b 10;"
                + "may n hang x b 5;");
        Check.same("nothing heard", x.fits(), 7);
        x.heard(99, 0, true);
        Check.same("x in 99", x.fits(), 5);
        x.heard(49, 0, false);
        Check.same("not x in 49", x.fits(), 4);
        x.heard(149, -1, true);
        Check.same("any in 149", x.fits(), 4);
        x.heard(150, -1, true);
        Check.same("any in 150", x.fits(), 0);
        x.known(1);
        Check.same("the first only", x.fits(), 5);
        x.known(0);
        Check.same("none", x.fits(), 7);
    }

    private static void eachClockOnEachBeam() {
        Check.of("Terms: may: each of CLOCKS at a BEAM and PLACE (all else as told)");
        String six = "beam a 0 0;beam b 0 0;law go place;clock u a 1 1 1;clock v a 2 1 1;clock w a 3 1 1;clock x a 4 1 1;"
                + "clock y a 5 1 1;clock z a 6 1 1;";
        for (int clock = 0; clock < 6; clock++) {
            BeamClocks x = Check.told(six + "may m hang " + (char) ('u' + clock) + " b 25;may n;");
            x.heard(39, clock, true);
            Check.same("clock " + clock + " by 25", x.fits(), 1);
            x.strike(0);
            x.heard((1000 - 1) / (clock + 1), clock, true);
            Check.same("clock " + clock + " as told", x.fits(), 6 | ((1000 - 1) / (clock + 1) % 40 == 39 ? 1 : 0));
        }
        // drawn on one beam, by itself on another, at the same place
        String drawn = "beam b 99 0;beam c 0 0;clock x b 0 1 50;clock y b 1 9 50 phase 200;";
        BeamClocks beam = Check.told(drawn + "may m hang x c 0;may n hang y c 1;may o hang x c 0 hang y c 1;may p hang x b 9;");
        beam.heard(16, 0, true);
        Check.same("drawn", beam.fits(), 8 | 16);
        beam.strike(0);
        beam.heard(19, 0, true);
        Check.same("by itself", beam.fits(), 1 | 2 | 4);
    }

    private static void asTheTextHasThem() {
        Check.of("==== 3: FITS: as the TEXT has them, all else as told");
        BeamClocks x = Check.told("beam b 0 0;law go place;clock x b 10 1 1;clock y b 20 1 1;may m hang x b 20;may n;");
        x.heard(99, 0, true);
        x.hang(0, 0, 7);
        x.stop(1);
        x.steps(10);
        Check.same("not as they hang now", x.fits(), 7);
        x.heard(49, 0, false);
        Check.same("m hangs x where y hangs", x.fits(), 6);
        x.heard(49, 1, true);
        Check.same("y as told", x.fits(), 6);
        // two at one place do not stop one another
        BeamClocks pulled = Check.told("beam b 9 1;clock x b 0 1 10;clock y b 5 1 10 phase 500;may m hang x b 5;");
        pulled.heard(99, 0, true);
        pulled.heard(49, 1, true);
        Check.same("both fit", pulled.fits(), 3);
    }

    private static void inTheLastStep() {
        Check.of("promise 31: a RUN of all STEPS that can be HEARD");
        BeamClocks x = Check.told("beam b 0 0;clock x b 0 1 10;may m;");
        x.heard(1999, 0, true);
        Check.same("in 1999", x.fits(), 3);
        x.heard(0, 0, false);
        Check.same("and not in 0", x.fits(), 3);
        x.heard(1998, -1, true);
        Check.same("nor in 1998", x.fits(), 0);
        BeamClocks first = Check.told("beam b 0 0;clock x b 0 1 10 phase 990;");
        first.heard(0, 0, true);
        Check.same("in 0", first.fits(), 1);
    }

    private static void onlyAsked() {
        Check.of("promise 31: it is only asked");
        Twins.unchanged("fits", x -> x.fits(), Twins.made(Twins::rich).fits());
    }
}
