/** Promise 5: named. */
public final class Promise05NamedTest {
    public static void main(String[] args) {
        ordinary();
        allThatAreNumberedAsTheyCome();
        sixLetters();
        noSuchLetters();
        noSuchWhat();
        namesOfTheLatestText();
        Check.end();
    }

    private static void ordinary() {
        BeamClocks x = Check.told("beam b 0 0;beam za 0 0;clock b b 0 1 1;clock abcdef za 0 1 1;may m;may b;");
        Check.same("beam b", x.named(0, Check.letters("b")), 0);
        Check.same("beam za", x.named(0, 26 << 25 | 1 << 20), 1);
        Check.same("clock b", x.named(1, 2 << 25), 0);
        Check.same("clock abcdef", x.named(1, 1 << 25 | 2 << 20 | 3 << 15 | 4 << 10 | 5 << 5 | 6), 1);
        Check.same("may b", x.named(2, 2 << 25), 1);
        Check.same("no clock za", x.named(1, Check.letters("za")), -1);
        Check.same("no clock abcde", x.named(1, Check.letters("abcde")), -1);
        Check.same("what 3", x.named(3, 2 << 25), -1);
        Check.same("what -1", x.named(-1, 2 << 25), -1);
        Check.same("b at the wrong end", x.named(0, 2), -1);
        Check.same("no letters", x.named(0, 0), -1);
        Check.same("a bit above all letters", x.named(0, 2 << 25 | 1 << 30), -1);
        Check.same("below 0", x.named(0, 2 << 25 | 1 << 31), -1);
        Check.tell(x, "beam c 0 0;");
        Check.same("told anew: no beam b", x.named(0, 2 << 25), -1);
        Check.same("told anew: no clock b", x.named(1, 2 << 25), -1);
    }

    private static void allThatAreNumberedAsTheyCome() {
        Check.of("promise 5: the number of a BEAM, CLOCK, MAY; all are numbered as they come");
        BeamClocks x = Check.told("may d;beam z 0 0;clock f z 0 1 1;may c;clock e z 1 1 1;beam y 0 0;clock d z 2 1 1;may b;"
                + "clock c z 3 1 1;clock b z 4 1 1;may a;clock a z 5 1 1;beam x 0 0;");
        String[] names = {"zyx", "fedcba", "dcba"};
        for (int what = 0; what <= 2; what++) {
            for (char name = 'a'; name <= 'z'; name++) {
                Check.same("named(" + what + ", " + name + ")", x.named(what, Check.letters("" + name)),
                        names[what].indexOf(name));
            }
        }
    }

    private static void sixLetters() {
        Check.of("promise 5: 5 bits each, a is 1, the first one highest of six, 0 behind the last one");
        String[] names = {"a", "ab", "abc", "abcd", "abcde", "abcdef"};
        for (String name : names) {
            BeamClocks x = Check.told("beam " + name + " 0 0;clock " + name + " " + name + " 0 1 1;may " + name + ";");
            for (String asked : names) {
                for (int what = 0; what <= 2; what++) {
                    Check.same(name + " as " + asked, x.named(what, Check.letters(asked)), name.equals(asked) ? 0 : -1);
                }
            }
        }
        BeamClocks x = Check.told("beam zzzzzz 0 0;beam aaaaaa 0 0;beam z 0 0;");
        Check.same("zzzzzz", x.named(0, 0x35ad6b5a), 0);
        Check.same("aaaaaa", x.named(0, 0x02108421), 1);
        Check.same("z", x.named(0, 0x34000000), 2);
    }

    private static void noSuchLetters() {
        Check.of("promise 5: NONE: there is none such");
        BeamClocks x = Check.told("beam a 0 0;beam ab 0 0;clock a a 0 1 1;may a;");
        int a = 1 << 25;
        for (int what = 0; what <= 2; what++) {
            Check.same("no letters", x.named(what, 0), -1);
            Check.same("-1", x.named(what, -1), -1);
            Check.same("a with a bit above", x.named(what, a | 1 << 30), -1);
            Check.same("a with the sign", x.named(what, a | 1 << 31), -1);
            Check.same("a with a bit below", x.named(what, a | 1), -1);
            Check.same("a behind an empty one", x.named(what, 1 << 20), -1);
            Check.same("a, an empty one, b", x.named(what, a | 2 << 15), -1);
            for (int far : Twins.FAR) {
                Check.same("letters " + far, x.named(what, far), -1);
            }
        }
        Twins.unchanged("named(0, 0)", y -> y.named(0, 0), -1);
    }

    private static void noSuchWhat() {
        Check.of("promise 5: NONE for another what");
        BeamClocks x = Check.told("beam a 0 0;clock a a 0 1 1;may a;");
        Check.same("3", x.named(3, 1 << 25), -1);
        Check.same("-1", x.named(-1, 1 << 25), -1);
        for (int what : Twins.FAR) {
            Check.same("" + what, x.named(what, 1 << 25), -1);
        }
        Twins.unchanged("named(3, ..)", y -> y.named(3, 1 << 25), -1);
    }

    private static void namesOfTheLatestText() {
        Check.of("promise 5: of the TEXT that stands");
        BeamClocks x = Check.told("beam a 0 0;beam b 0 0;clock c a 0 1 1;may d;");
        Check.tell(x, "beam e 0 0;beam f 0 0;#");
        Check.same("a faulty text tells no names", x.named(0, Check.letters("e")), -1);
        Check.same("those ahead of it stay", x.named(0, Check.letters("b")), 1);
        Check.tell(x, "beam b 0 0;");
        Check.same("told anew", x.named(0, Check.letters("b")), 0);
        Check.same("no a now", x.named(0, Check.letters("a")), -1);
        Check.same("no clock now", x.named(1, Check.letters("c")), -1);
        Check.same("no may now", x.named(2, Check.letters("d")), -1);
    }
}
