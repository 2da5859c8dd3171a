/** Promise 2: feed. */
public final class Promise02FeedTest {
    private static final int BLANKS = 0x20202020;

    public static void main(String[] args) {
        ordinary();
        everyByteInItsPlace();
        bytesOfNumbersBelow0();
        sevenHundredAreTaken();
        noneComeBeyond700();
        roomAgainBehindAText();
        Check.end();
    }

    private static void ordinary() {
        BeamClocks x = new BeamClocks();
        for (int i = 1; i <= 35; i++) {
            Check.same("feed " + i, x.feed(0, 0, 0, 0, 0), 20 * i);
        }
        Check.same("the 36th feed", x.feed(0, 0, 0, 0, 0), -1);
        Check.same("text(701)", x.text(701), -2);
        Check.same("text(700)", x.text(700), -1);
        Check.same("the tape is empty", x.feed(0, 0, 0, 0, 0), 20);
        BeamClocks y = new BeamClocks();
        // "wall", " 7; ", then what is beyond n
        y.feed(0x77616c6c, 0x20373b20, -1, -1, -1);
        Check.same("four bytes of each number, the highest first", y.text(8), 1);
    }

    private static void everyByteInItsPlace() {
        Check.of("promise 2: twenty bytes, four of each number, the highest first");
        // "beam b 3", "4 5;cloc", "k xy" are a to e
        BeamClocks x = new BeamClocks();
        x.feed(0x6265616d, 0x20622033, 0x3420353b, 0x636c6f63, 0x6b207879);
        Check.same("the second twenty", x.feed(0x7a206220, 0x36203720, 0x38203b20, 0x23232323, 0x23232323), 40);
        Check.same("text", x.text(31), 2);
        Check.same("beam b", x.named(0, Check.letters("b")), 0);
        Check.same("clock xyz", x.named(1, Check.letters("xyz")), 0);
        Check.same("place 6", Check.look(x, 0, 1), 6);
        Check.same("weight 7", Check.look(x, 0, 2), 7);
        Check.same("speed 8", Check.look(x, 0, 3), 8);
        for (int at = 0; at < 20; at++) {
            int[] row = {BLANKS, BLANKS, BLANKS, BLANKS, BLANKS};
            row[at / 4] ^= 3 << 24 - at % 4 * 8;
            BeamClocks y = new BeamClocks();
            y.feed(row[0], row[1], row[2], row[3], row[4]);
            Check.same("a '#' at " + at, y.text(20), -1);
            Check.same("its place", y.fault(1), at);
        }
    }

    private static void bytesOfNumbersBelow0() {
        Check.of("promise 2: four bytes of a number below 0");
        BeamClocks x = new BeamClocks();
        Check.same("feed", x.feed(-1, Integer.MIN_VALUE, Integer.MAX_VALUE, -1, -1), 20);
        Check.same("text", x.text(20), -1);
        Check.same("byte 255 is no token", x.fault(0), 1);
        Check.same("at 0", x.fault(1), 0);
        // 0xa0 and 0x8a are 32 and 10 with the highest bit
        x.feed(0x20a02020, BLANKS, BLANKS, BLANKS, BLANKS);
        x.text(20);
        Check.same("byte 160 is no blank", x.fault(1), 1);
        x.feed(0x20208a20, BLANKS, BLANKS, BLANKS, BLANKS);
        x.text(20);
        Check.same("byte 138 is no blank", x.fault(1), 2);
    }

    private static void full(BeamClocks x) {
        Check.feed(x, "wall 7;");
        for (int i = 1; i < 35; i++) {
            x.feed(BLANKS, BLANKS, BLANKS, BLANKS, BLANKS);
        }
    }

    private static void sevenHundredAreTaken() {
        Check.of("promise 2: 700 are not more than 700");
        BeamClocks x = new BeamClocks();
        for (int i = 1; i <= 34; i++) {
            x.feed(BLANKS, BLANKS, BLANKS, BLANKS, BLANKS);
        }
        // the last bytes of all are "may q;"
        Check.same("the 35th", x.feed(BLANKS, BLANKS, BLANKS, 0x20206d61, 0x7920713b), 700);
        Check.same("text of all", x.text(700), 1);
        Check.same("a may", x.count(2), 1);
        BeamClocks y = new BeamClocks();
        full(y);
        Check.same("text(701)", y.text(701), -2);
        Check.same("text(700)", y.text(700), 1);
    }

    private static void noneComeBeyond700() {
        Check.of("promise 2: NONE, and none come, if it would have more than 700");
        Twins.unchanged("a 36th feed", Promise02FeedTest::full, x -> x.feed(-1, -1, -1, -1, -1), -1);
        BeamClocks x = new BeamClocks();
        full(x);
        for (int i = 0; i < 3; i++) {
            Check.same("one more", x.feed(0x23232323, 0x23232323, 0x23232323, 0x23232323, 0x23232323), -1);
        }
        Check.same("text(701), none came", x.text(701), -2);
        Check.same("text(700), none came over the first ones", x.text(700), 1);
    }

    private static void roomAgainBehindAText() {
        Check.of("promise 2: how many the TAPE has, behind a text that made it empty");
        BeamClocks x = new BeamClocks();
        full(x);
        x.feed(0, 0, 0, 0, 0);
        Check.same("text(7)", x.text(7), 1);
        for (int i = 1; i <= 35; i++) {
            Check.same("feed " + i, x.feed(BLANKS, BLANKS, BLANKS, BLANKS, BLANKS), 20 * i);
        }
        Check.same("a 36th", x.feed(BLANKS, BLANKS, BLANKS, BLANKS, BLANKS), -1);
    }
}
