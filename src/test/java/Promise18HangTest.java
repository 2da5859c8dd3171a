/** Promise 18: hang. */
public final class Promise18HangTest {
    private static final String THREE = "beam a 20 1;beam b 30 2;clock x a 0 1 10;clock y a 3 1 10;clock z b 30 1 10 start 9;";

    public static void main(String[] args) {
        ordinary();
        places0To30();
        noSuchOnes();
        anotherClockIsThere();
        itHangsThere();
        freeAgain();
        thoseThatDontRunToo();
        sixClocksMoveAbout();
        Check.end();
    }

    private static void ordinary() {
        BeamClocks x = Check.told("beam a 0 0;beam b 0 0;clock x a 0 1 10;clock y a 3 1 10;");
        Check.no("another is there", x.hang(0, 0, 3));
        Check.no("it hangs there", x.hang(0, 0, 0));
        Check.no("place 31", x.hang(0, 0, 31));
        Check.no("place -1", x.hang(0, 0, -1));
        Check.no("beam 2", x.hang(0, 2, 0));
        Check.no("beam -1", x.hang(0, -1, 0));
        Check.no("clock 2", x.hang(2, 0, 9));
        Check.no("clock -1", x.hang(-1, 0, 9));
        Check.same("nothing was done", x.count(7), 0);
        Check.yes("place 30", x.hang(0, 0, 30));
        Check.yes("the same place of another beam", x.hang(0, 1, 3));
        Check.same("beam", Check.look(x, 0, 0), 1);
        Check.same("place", Check.look(x, 0, 1), 3);
        x.steps(7);
        Check.yes("as it goes", x.hang(1, 0, 0));
        Check.same("its phase stays", Check.look(x, 1, 4), 70);
        BeamClocks y = Check.told("beam b 0 0;law go place;clock x b 3 1 10;");
        y.steps(2);
        y.hang(0, 0, 20);
        y.steps(1);
        Check.same("it goes by its new place", Check.look(y, 0, 4), 26);
    }

    private static void refused(String what, int clock, int beam, int place) {
        Twins.unchanged(what, x -> Check.tell(x, THREE), x -> x.hang(clock, beam, place) ? 1 : 0, 0);
        Twins.unchanged(what + ", behind other hangings", x -> {
            Check.tell(x, THREE);
            x.steps(4);
            x.keep();
            x.hang(0, 0, 9);
            x.hang(0, 0, 0);
        }, x -> x.hang(clock, beam, place) ? 1 : 0, 0);
    }

    private static void places0To30() {
        Check.of("promise 18: a PLACE (0 .. 30)");
        BeamClocks x = Check.told(THREE);
        for (int place = 1; place <= 30; place++) {
            Check.same("place " + place, x.hang(0, 0, place) ? 1 : 0, place == 3 ? 0 : 1);
        }
        Check.yes("place 0", x.hang(0, 0, 0));
        Check.no("place 31", x.hang(0, 0, 31));
        Check.no("place -1", x.hang(0, 0, -1));
        refused("place 31", 0, 0, 31);
        refused("place -1", 0, 0, -1);
        for (int far : Twins.FAR) {
            Check.no("place " + far, x.hang(0, 0, far));
        }
        Check.same("it hangs where it was", Check.look(x, 0, 1), 0);
    }

    private static void noSuchOnes() {
        Check.of("promise 18: false: no such ones");
        refused("clock 3", 3, 0, 9);
        refused("clock -1", -1, 0, 9);
        refused("beam 2", 0, 2, 9);
        refused("beam -1", 0, -1, 9);
        BeamClocks x = Check.told(THREE);
        for (int far : Twins.FAR) {
            Check.no("clock " + far, x.hang(far, 0, 9));
            Check.no("beam " + far, x.hang(0, far, 9));
        }
        Check.same("nothing to undo", x.undo(), -1);
        Check.yes("the last beam", x.hang(0, 1, 9));
        Check.yes("the last clock", x.hang(2, 0, 9));
        Check.no("no clocks", new BeamClocks().hang(0, 0, 0));
        // the beams of the text ahead are none of this one
        Check.tell(x, "beam a 20 1;clock x a 0 1 10;");
        Check.no("a beam told no more", x.hang(0, 1, 9));
        Check.no("a clock told no more", x.hang(1, 0, 9));
    }

    private static void anotherClockIsThere() {
        Check.of("promise 18: false: another CLOCK is there");
        refused("x at y's", 0, 0, 3);
        refused("x at z's", 0, 1, 30);
        refused("z at y's", 2, 0, 3);
        BeamClocks x = Check.told(THREE);
        Check.yes("the same place of another beam", x.hang(0, 1, 3));
        Check.yes("where it hung", x.hang(1, 0, 0));
        Check.no("where another hangs now", x.hang(0, 0, 0));
        x.stop(1);
        Check.no("a stopped one hangs there still", x.hang(0, 0, 0));
    }

    private static void itHangsThere() {
        Check.of("promise 18: false: it hangs there");
        refused("x at its own", 0, 0, 0);
        refused("y at its own", 1, 0, 3);
        refused("z at its own", 2, 1, 30);
        BeamClocks x = Check.told(THREE);
        Check.yes("elsewhere", x.hang(0, 0, 7));
        Check.no("there it hangs now", x.hang(0, 0, 7));
        Check.yes("and back", x.hang(0, 0, 0));
        Check.same("two can be undone", x.count(7), 2);
    }

    private static void freeAgain() {
        Check.of("promise 18: a PLACE is free again when its CLOCK is hung elsewhere, or that is undone");
        BeamClocks x = Check.told(THREE);
        x.hang(1, 0, 5);
        Check.yes("where y was", x.hang(0, 0, 3));
        x.undo();
        x.undo();
        Check.no("y is there again", x.hang(0, 0, 3));
        Check.yes("5 is free", x.hang(0, 0, 5));
    }

    private static void thoseThatDontRunToo() {
        Check.of("promise 18: a CLOCK is hung, whether it RUNS or not");
        BeamClocks x = Check.told(THREE);
        Check.yes("not started", x.hang(2, 1, 0));
        x.steps(1);
        x.stop(0);
        Check.yes("stopped", x.hang(0, 0, 30));
        Check.same("stopped still", Check.look(x, 0, 7), 2);
        Check.same("not started still", Check.look(x, 2, 7), 0);
        Check.same("its reach", x.reach(0, 1), 0);
        x.hang(0, 0, 4);
        Check.same("its reach now", x.reach(0, 1), 19);
    }

    private static void sixClocksMoveAbout() {
        Check.of("promise 18: each of six CLOCKS on each of three BEAMS");
        BeamClocks x = Check.told("beam a 0 0;beam b 0 0;beam c 0 0;clock u a 0 1 1;clock v a 1 1 1;clock w a 2 1 1;"
                + "clock x a 3 1 1;clock y a 4 1 1;clock z a 5 1 1;");
        for (int beam = 2; beam >= 0; beam--) {
            for (int clock = 0; clock < 6; clock++) {
                Check.yes("clock " + clock + " on beam " + beam, x.hang(clock, beam, 20 + clock));
                for (int other = 0; other < 6; other++) {
                    Check.no("another there", other != clock && x.hang(other, beam, 20 + clock));
                }
                Check.same("its beam", Check.look(x, clock, 0), beam);
                Check.same("its place", Check.look(x, clock, 1), 20 + clock);
            }
        }
        Check.no("a fourth beam", x.hang(0, 3, 0));
    }
}
