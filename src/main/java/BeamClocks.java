import java.util.NoSuchElementException;

/**
 * Clocks on one beam, told as a text, gone step by step, heard and tried otherwise.
 * ../shared/DOC.md says what every call answers; words in capitals are that document's terms.
 */
public final class BeamClocks {
    public static final int NONE = -1;
    public static final int SPENT = -2;

    private static final int MOST_BEAMS = 3;
    private static final int MOST_CLOCKS = 6;
    private static final int MOST_MAYS = 4;
    private static final int MOST_PLACE = 30;
    private static final int MOST_TAPE = 700;
    private static final int MOST_KNOTS = 64;
    private static final int MOST_OPEN = 8;
    private static final int MOST_STEPS = 4000;
    private static final int MOST_STEPS_A_CALL = 1000;
    private static final int MOST_RUN = 2000;
    private static final int MOST_HEARD = 40;
    private static final int MOST_UNDONE = 20;
    private static final int MOST_LEAST_RUN = 60;
    private static final int MOST_ORDER_RUN = 300;
    private static final int MOST_CHANCE_RUN = 500;
    private static final int MOST_SPEED = 99;
    private static final int MOST_STIFF = 99;
    private static final int ROUND = 1000;
    private static final int HALF = 500;

    // The kinds of FAULT.
    private static final int NO_TOKEN_HERE = 1;
    private static final int TOO_MUCH = 2;
    private static final int TOLD_ALREADY = 3;
    private static final int NOT_TOLD = 4;
    private static final int PLACE_TAKEN = 5;

    // What a CLOCK does, by the numbers that look() answers.
    private static final int WAITS = 0;
    private static final int RUNS = 1;
    private static final int STOPPED = 2;

    // The kinds of TOKENS; signs stand in the order in which they bind, NAMES in a row.
    private static final int END = 0;
    private static final int BAD = 1;
    private static final int NUMBER = 2;
    private static final int WORD = 3;
    private static final int SEMICOLON = 4;
    private static final int OPEN = 5;
    private static final int CLOSE = 6;
    private static final int TIMES = 7;
    private static final int BY = 8;
    private static final int PLUS = 9;
    private static final int MINUS = 10;
    private static final int LESS = 11;
    private static final int LESS_OR_SAME = 12;
    private static final int SAME = 13;
    private static final int OTHER = 14;
    private static final int MORE_OR_SAME = 15;
    private static final int MORE = 16;
    private static final int NOT = 17;
    private static final int AND = 18;
    private static final int OR = 19;
    private static final int SPEED = 20;
    private static final int SWING = 21;
    private static final int PULL = 22;
    private static final int WEIGHT = 23;
    private static final int PLACE = 24;
    private static final int STEP = 25;
    private static final int COUNT = 26;
    private static final int BEAM = 27;
    private static final int CLOCK = 28;
    private static final int PHASE = 29;
    private static final int DRIVE = 30;
    private static final int START = 31;
    private static final int WALL = 32;
    private static final int LAW = 33;
    private static final int LOSE = 34;
    private static final int GO = 35;
    private static final int MAY = 36;
    private static final int HANG = 37;

    private static final int FIRST_OF_LANGUAGE = NOT;
    private static final int LANGUAGE_WORDS = HANG - NOT + 1;
    private static final int NAME_KINDS = COUNT - SPEED + 1;
    private static final int LETTERS = 6;

    /** The words of the language by their kinds from NOT to HANG, six signs each. */
    private static final String LANGUAGE = "not   and   or    speed swing pull  weightplace step  count beam  clock phase drive start wall  law   lose  go    may   hang  ";

    private final byte[] tape;
    private int taped;
    private final Reader reader;
    private Telling told;
    private Telling spare;
    private final Motion now;
    private final Motion image;
    private boolean imaged;
    private final Motion trial;
    private final Story story;
    private final Hand hand;
    private final Hearing hearing;
    private final Least leastMoving;
    private final Order startOrder;
    private final int[] otherBeams;
    private final int[] otherPlaces;
    private final byte[] strokesOfRun;

    public BeamClocks() {
        tape = new byte[MOST_TAPE];
        taped = 0;
        told = new Telling();
        spare = new Telling();
        reader = new Reader(new Tokens(tape), spare);
        now = new Motion(told);
        image = new Motion(told);
        imaged = false;
        trial = new Motion(told);
        story = new Story();
        hand = new Hand();
        hearing = new Hearing();
        leastMoving = new Least(trial);
        startOrder = new Order(trial);
        otherBeams = new int[MOST_CLOCKS];
        otherPlaces = new int[MOST_CLOCKS];
        strokesOfRun = new byte[MOST_RUN];
    }

    public int feed(int a, int b, int c, int d, int e) {
        if (taped + 20 > MOST_TAPE) {
            return NONE;
        }
        tapeNumber(a);
        tapeNumber(b);
        tapeNumber(c);
        tapeNumber(d);
        tapeNumber(e);
        return taped;
    }

    public int text(int n) {
        if (n < 0 || n > taped) {
            return SPENT;
        }
        taped = 0;
        if (!reader.reads(spare, n)) {
            return NONE;
        }
        Telling ahead = told;
        told = spare;
        spare = ahead;
        now.begin(told, told.beam, told.place);
        imaged = false;
        hand.forget();
        hearing.forget();
        forgetFound();
        return reader.lines;
    }

    public int fault(int what) {
        if (what == 0) {
            return reader.fault;
        }
        return what == 1 ? reader.faultPlace : NONE;
    }

    public int named(int what, int letters) {
        switch (what) {
            case 0: return told.beams.find(letters);
            case 1: return told.clocks.find(letters);
            case 2: return told.mays.find(letters);
            default: return NONE;
        }
    }

    public int look(int clock, int what) throws IndexOutOfBoundsException, NoSuchElementException {
        if (!isClock(clock)) {
            throw new IndexOutOfBoundsException("no such clock");
        }
        switch (what) {
            case 0: return now.beam[clock];
            case 1: return now.place[clock];
            case 2: return now.weight[clock];
            case 3: return now.speed[clock];
            case 4: return now.phase[clock];
            case 5: return now.swing[clock];
            case 6: return now.count[clock];
            case 7: return now.state[clock];
            default: throw new NoSuchElementException("no such what");
        }
    }

    public int reach(int one, int other) {
        return areTwoClocks(one, other) ? now.reachOf(one, other) : NONE;
    }

    public int pull(int clock) {
        return isClock(clock) ? now.pullOf(clock) : Integer.MIN_VALUE;
    }

    public int steps(int n) {
        if (n < 0 || n > MOST_STEPS_A_CALL || now.step + n > MOST_STEPS) {
            return NONE;
        }
        for (int i = 0; i < n; i++) {
            now.advance();
            story.tell(now);
        }
        if (n > 0) {
            hand.forget();
        }
        return now.step;
    }

    public int was(int clock, int step) {
        if (!isClock(clock) || step < 0 || step >= now.step) {
            return NONE;
        }
        return story.phaseAt(clock, step);
    }

    public int stroke(int clock, int k) {
        if (!isClock(clock) || k < 0) {
            return NONE;
        }
        return story.strokeStep(clock, k, now.step);
    }

    public int apart(int one, int other) {
        return areTwoClocks(one, other) ? apartOf(now.phase[one], now.phase[other]) : NONE;
    }

    public int since(int one, int other, int n, boolean against) {
        if (!areTwoClocks(one, other) || !isApart(n)) {
            return NONE;
        }
        int first = now.step;
        for (int step = now.step - 1; step >= 0; step--) {
            int apart = apartOf(story.phaseAt(one, step), story.phaseAt(other, step));
            if (against ? apart < HALF - n : apart > n) {
                break;
            }
            first = step;
        }
        return first < now.step ? first : SPENT;
    }

    public int groups(int n) {
        if (!isApart(n)) {
            return NONE;
        }
        int found = 0;
        int left = now.runners();
        for (int clock = 0; clock < MOST_CLOCKS; clock++) {
            if ((left >> clock & 1) == 1) {
                left &= ~now.groupOf(clock, n);
                found++;
            }
        }
        return found;
    }

    public int group(int clock, int n) {
        return isClock(clock) && isApart(n) ? now.groupOf(clock, n) : NONE;
    }

    public int falls() {
        return story.fallsUpTo(now.step);
    }

    public int fall(int k) {
        return k < 0 ? NONE : story.fallStep(k, now.step);
    }

    public boolean hang(int clock, int beam, int place) {
        if (!isClock(clock) || beam < 0 || beam >= told.beams.size || place < 0 || place > MOST_PLACE) {
            return false;
        }
        if (isTaken(now.beam, now.place, 0, beam, place)) {
            return false;
        }
        hand.note(now, clock);
        now.beam[clock] = beam;
        now.place[clock] = place;
        now.measure();
        forgetFound();
        return true;
    }

    public boolean stop(int clock) {
        if (!isClock(clock) || now.state[clock] == STOPPED) {
            return false;
        }
        hand.note(now, clock);
        now.state[clock] = STOPPED;
        now.swing[clock] = 0;
        return true;
    }

    public int undo() {
        if (!hand.takeBack(now)) {
            return NONE;
        }
        now.measure();
        forgetFound();
        return hand.size;
    }

    public int run(int clock, int n, int what) {
        if (!isClock(clock) || !isRun(n) || what < 0 || what > 3) {
            return NONE;
        }
        beginTrial();
        trial.go(n);
        switch (what) {
            case 0: return trial.count[clock];
            case 1: return trial.phase[clock];
            case 2: return trial.swing[clock];
            default: return trial.state[clock] == RUNS ? 1 : 0;
        }
    }

    public int own(int clock, int n) {
        if (!isClock(clock) || !isRun(n)) {
            return NONE;
        }
        beginTrial();
        trial.leaveAlone(clock);
        trial.go(n);
        return trial.count[clock];
    }

    public int least(int clocks, int n, int k, int what) {
        if (clocks < 0 || clocks >= 1 << told.clocks.size || n < 0 || n > MOST_LEAST_RUN) {
            return NONE;
        }
        if (k < 0 || k > 99 || what < 0 || what > 6) {
            return NONE;
        }
        leastMoving.find(now, clocks, n, k);
        if (leastMoving.moves == SPENT || what == 0) {
            return leastMoving.moves;
        }
        return leastMoving.moved[what - 1];
    }

    public int mend(int clock, int n, int count) {
        if (!isClock(clock) || !isRun(n) || count < 0 || count > 999) {
            return Integer.MIN_VALUE;
        }
        int best = 0;
        int nearest = Integer.MAX_VALUE;
        for (int i = 0; i <= 18; i++) {
            // 0, -1, 1, -2, 2, .. so that the first of the nearest ones is the one asked for
            int change = (i & 1) == 1 ? -(i + 1) / 2 : i / 2;
            int speed = told.speed[clock] + change;
            if (speed >= 1 && speed <= MOST_SPEED) {
                int far = distance(countAtSpeed(clock, speed, n), count);
                if (far < nearest) {
                    nearest = far;
                    best = change;
                }
            }
        }
        return best;
    }

    public int order(int n, int g, int w, int what) {
        int clocks = told.clocks.size;
        if (n < 1 || n > MOST_ORDER_RUN || g < 0 || g > 99 || !isApart(w)) {
            return NONE;
        }
        if (clocks == 0 || what < 0 || what > clocks) {
            return NONE;
        }
        startOrder.find(now, n, g, w);
        if (startOrder.earliest == SPENT || what == 0) {
            return startOrder.earliest;
        }
        return startOrder.best[what - 1];
    }

    public int due(int clock, int k) {
        return isClock(clock) && k >= 0 ? dueStep(clock, k) : NONE;
    }

    public int gain(int one, int other, int k) {
        if (!isClock(one) || !isClock(other) || k < 0) {
            return Integer.MIN_VALUE;
        }
        int first = dueStep(one, k);
        int second = dueStep(other, k);
        return first < 0 || second < 0 ? Integer.MIN_VALUE : first - second;
    }

    public int heard(int step, int clock, boolean struck) {
        if (step < 0 || step >= MOST_RUN || clock != NONE && !isClock(clock)) {
            return NONE;
        }
        int who = clock == NONE ? (1 << MOST_CLOCKS) - 1 : 1 << clock;
        return hearing.add(struck ? Hearing.STRUCK : Hearing.SILENT, step, who);
    }

    public int strike(int heard) {
        return heard < 0 || heard >= hearing.size ? NONE : hearing.add(Hearing.STRIKE, heard, 0);
    }

    public boolean known(int n) {
        if (n < -1 || n > hearing.size) {
            return false;
        }
        hearing.bound = n;
        return true;
    }

    public int fits() {
        hearing.settle();
        int last = hearing.lastStep();
        int bits = 0;
        for (int may = 0; may <= told.mays.size; may++) {
            told.hangings(may, otherBeams, otherPlaces);
            trial.begin(told, otherBeams, otherPlaces);
            for (int step = 0; step <= last && step < MOST_RUN; step++) {
                trial.advance();
                strokesOfRun[step] = (byte) trial.struck;
            }
            if (hearing.agrees(strokesOfRun)) {
                bits |= 1 << may;
            }
        }
        return bits;
    }

    public int tried(int what, int i, int n, int clock) {
        if (!isClock(clock) || !isRun(n) || !canBeTried(what, i)) {
            return NONE;
        }
        beginTrial();
        changeTrial(what, i);
        trial.measure();
        trial.go(n);
        return trial.count[clock];
    }

    public int chance(int seed, int n, int w) {
        if (seed < 0 || n < 0 || n > MOST_CHANCE_RUN || !isApart(w)) {
            return NONE;
        }
        long last = seed;
        int together = 0;
        for (int draw = 0; draw < 10; draw++) {
            beginTrial();
            for (int clock = 0; clock < told.clocks.size; clock++) {
                last = last * 1103515245L + 12345L & 0x7fffffffL;
                trial.phase[clock] = (int) (last / 65536L % ROUND);
            }
            trial.go(n);
            if (trial.isTogether(w)) {
                together++;
            }
        }
        return together;
    }

    public int keep() {
        image.take(now);
        imaged = true;
        return now.step;
    }

    public int back() {
        if (!imaged) {
            return NONE;
        }
        now.take(image);
        hand.forget();
        forgetFound();
        return now.step;
    }

    public int count(int what) {
        switch (what) {
            case 0: return told.beams.size;
            case 1: return told.clocks.size;
            case 2: return told.mays.size;
            case 3: return told.lose.length + told.go.length;
            case 4: return now.step;
            case 5: return hearing.size;
            case 6: return hearing.asked();
            case 7: return hand.size;
            case 8: return Integer.bitCount(now.runners());
            case 9: return now.allCounts();
            default: return NONE;
        }
    }

    private void tapeNumber(int number) {
        for (int shift = 24; shift >= 0 && taped < MOST_TAPE; shift -= 8) {
            tape[taped] = (byte) (number >> shift);
            taped++;
        }
    }

    private boolean isClock(int clock) {
        return clock >= 0 && clock < told.clocks.size;
    }

    private boolean areTwoClocks(int one, int other) {
        return isClock(one) && isClock(other) && one != other;
    }

    private static boolean isApart(int n) {
        return n >= 0 && n <= HALF;
    }

    private static boolean isRun(int n) {
        return n >= 0 && n <= MOST_RUN;
    }

    /** What LEAST and ORDER found holds only while all hang as they did. */
    private void forgetFound() {
        leastMoving.forget();
        startOrder.forget();
    }

    private void beginTrial() {
        trial.begin(told, now.beam, now.place);
    }

    private int countAtSpeed(int clock, int speed, int n) {
        beginTrial();
        trial.speed[clock] = speed;
        trial.go(n);
        return trial.count[clock];
    }

    private int dueStep(int clock, int k) {
        beginTrial();
        for (int step = 0; step < MOST_RUN; step++) {
            trial.advance();
            if (trial.count[clock] > k) {
                return step;
            }
        }
        return SPENT;
    }

    private boolean canBeTried(int what, int i) {
        switch (what) {
            case 0: return isClock(i);
            case 1: return i == 0;
            case 2: return i == 0;
            case 3: return i == 0;
            case 4: return i >= 0 && i < told.beams.size;
            case 5: return isClock(i);
            default: return false;
        }
    }

    private void changeTrial(int what, int i) {
        switch (what) {
            case 0:
                trial.start[i] = NONE;
                break;
            case 1:
                trial.wall = 0;
                break;
            case 2:
                trial.lossless = true;
                break;
            case 3:
                for (int clock = 0; clock < MOST_CLOCKS; clock++) {
                    trial.weight[clock] = 1;
                }
                break;
            case 4:
                trial.stiff[i] = between(0, 2 * trial.stiff[i], MOST_STIFF);
                break;
            default:
                trial.start[i] = 0;
                break;
        }
    }

    private static int between(int lowest, int value, int highest) {
        if (value < lowest) {
            return lowest;
        }
        return value > highest ? highest : value;
    }

    private static int distance(int one, int other) {
        return one < other ? other - one : one - other;
    }

    private static int apartOf(int one, int other) {
        int apart = distance(one, other);
        return apart > HALF ? ROUND - apart : apart;
    }

    /** Whether one of the six that stand from a row's place on hangs there. */
    private static boolean isTaken(int[] beams, int[] places, int from, int beam, int place) {
        for (int i = from; i < from + MOST_CLOCKS && i < beams.length && i < places.length; i++) {
            if (beams[i] == beam && places[i] == place) {
                return true;
            }
        }
        return false;
    }

    /** Names of one kind, numbered as they come. */
    private static final class Names {
        private final int[] letters;
        private int size;

        Names(int most) {
            letters = new int[most < 0 ? 0 : most];
            size = 0;
        }

        void add(int word) {
            if (size < letters.length) {
                letters[size] = word;
                size++;
            }
        }

        int find(int word) {
            for (int i = 0; i < size && i < letters.length; i++) {
                if (letters[i] == word) {
                    return i;
                }
            }
            return NONE;
        }
    }

    /** A law's E with each sign behind what it joins, so that it is worked out without recursion. */
    private static final class Law {
        /** Stands for an ERROR: no VALUE comes near it. */
        private static final long ERROR = Long.MIN_VALUE;
        private static final long LIMIT = 1000000000000L;

        private boolean isTold;
        private int length;
        private final int[] kinds = new int[MOST_KNOTS];
        private final int[] numbers = new int[MOST_KNOTS];
        private final long[] stack = new long[MOST_KNOTS];

        void clear() {
            isTold = false;
            length = 0;
        }

        void add(int kind, int number) {
            if (length < MOST_KNOTS) {
                kinds[length] = kind;
                numbers[length] = number;
                length++;
            }
        }

        /** The VALUE by these NAMES within 0 .. most; another one without such a law or with an ERROR. */
        int worth(long[] names, int most, int otherwise) {
            if (!isTold) {
                return otherwise;
            }
            int height = 0;
            for (int i = 0; i < length; i++) {
                int kind = kinds[i];
                if (kind == NUMBER && height < MOST_KNOTS) {
                    stack[height] = numbers[i];
                    height++;
                } else if (kind >= SPEED && kind <= COUNT && height < MOST_KNOTS) {
                    stack[height] = names[kind - SPEED];
                    height++;
                } else if (kind == NOT && height > 0) {
                    stack[height - 1] = stack[height - 1] == 0 ? 1 : 0;
                } else if (height > 1) {
                    height--;
                    long value = joined(kind, stack[height - 1], stack[height]);
                    if (value == ERROR) {
                        return otherwise;
                    }
                    stack[height - 1] = value;
                }
            }
            long value = stack[0];
            if (value < 0) {
                return 0;
            }
            return value > most ? most : (int) value;
        }

        private static long joined(int kind, long a, long b) {
            long value;
            switch (kind) {
                case TIMES:
                    value = a * b;
                    // two values within the limit may go beyond a long
                    value = b != 0 && value / b != a ? ERROR : value;
                    break;
                case BY: value = b == 0 ? ERROR : a / b; break;
                case PLUS: value = a + b; break;
                case MINUS: value = a - b; break;
                case LESS: value = a < b ? 1 : 0; break;
                case LESS_OR_SAME: value = a <= b ? 1 : 0; break;
                case SAME: value = a == b ? 1 : 0; break;
                case OTHER: value = a != b ? 1 : 0; break;
                case MORE_OR_SAME: value = a >= b ? 1 : 0; break;
                case MORE: value = a > b ? 1 : 0; break;
                case AND: value = a != 0 && b != 0 ? 1 : 0; break;
                case OR: value = a != 0 || b != 0 ? 1 : 0; break;
                default: value = ERROR; break;
            }
            return value > LIMIT || value < -LIMIT ? ERROR : value;
        }
    }

    /** All that a TEXT tells. */
    private static final class Telling {
        private final Names beams = new Names(MOST_BEAMS);
        private final int[] give = new int[MOST_BEAMS];
        private final int[] stiff = new int[MOST_BEAMS];
        private final Names clocks = new Names(MOST_CLOCKS);
        private final int[] beam = new int[MOST_CLOCKS];
        private final int[] place = new int[MOST_CLOCKS];
        private final int[] weight = new int[MOST_CLOCKS];
        private final int[] speed = new int[MOST_CLOCKS];
        private final int[] phase = new int[MOST_CLOCKS];
        private final int[] drive = new int[MOST_CLOCKS];
        private final int[] swing = new int[MOST_CLOCKS];
        private final int[] start = new int[MOST_CLOCKS];
        private int wall;
        private final Names mays = new Names(MOST_MAYS);
        /** A row of six CLOCKS for each MAY; NONE: it leaves that CLOCK as told. */
        private final int[] mayBeam = new int[MOST_MAYS * MOST_CLOCKS];
        private final int[] mayPlace = new int[MOST_MAYS * MOST_CLOCKS];
        private final Law lose = new Law();
        private final Law go = new Law();

        Telling() {
            forgetHangings();
        }

        void clear() {
            beams.size = 0;
            clocks.size = 0;
            mays.size = 0;
            wall = 0;
            lose.clear();
            go.clear();
            forgetHangings();
            for (int i = 0; i < MOST_CLOCKS; i++) {
                phase[i] = 0;
                drive[i] = 0;
                swing[i] = 500;
                start[i] = 0;
            }
        }

        private void forgetHangings() {
            for (int i = 0; i < MOST_CLOCKS; i++) {
                beam[i] = NONE;
            }
            for (int i = 0; i < MOST_MAYS * MOST_CLOCKS; i++) {
                mayBeam[i] = NONE;
            }
        }

        /** Where all hang by a MAY; by the number behind all: as told. */
        void hangings(int may, int[] beams, int[] places) {
            for (int i = 0; i < MOST_CLOCKS && i < beams.length && i < places.length; i++) {
                int at = may * MOST_CLOCKS + i;
                boolean moved = may >= 0 && may < mays.size && at < mayBeam.length && mayBeam[at] != NONE;
                beams[i] = moved ? mayBeam[at] : beam[i];
                places[i] = moved ? mayPlace[at] : place[i];
            }
        }
    }

    /** The TOKENS of the TAPE, one after another. */
    private static final class Tokens {
        private static final int HUGE = 1000000;

        private final byte[] tape;
        private final int[] language = new int[LANGUAGE_WORDS];
        private int length;
        private int at;
        private int kind;
        private int place;
        private int number;
        private int letters;

        Tokens(byte[] tape) {
            this.tape = tape;
            for (int word = 0; word < LANGUAGE_WORDS; word++) {
                int packed = 0;
                for (int i = 0; i < LETTERS; i++) {
                    int index = word * LETTERS + i;
                    char sign = index < LANGUAGE.length() ? LANGUAGE.charAt(index) : ' ';
                    packed = packed << 5 | (sign == ' ' ? 0 : sign - 'a' + 1);
                }
                language[word] = packed;
            }
        }

        void begin(int n) {
            length = n < tape.length ? n : tape.length;
            at = 0;
            next();
        }

        void next() {
            while (at < length && (tape[at] == 10 || tape[at] == 32)) {
                at++;
            }
            place = at;
            if (at >= length) {
                kind = END;
            } else if (tape[at] >= 'a' && tape[at] <= 'z') {
                readWord();
            } else if (tape[at] >= '0' && tape[at] <= '9') {
                readNumber();
            } else {
                readSign();
            }
        }

        private void readNumber() {
            kind = NUMBER;
            number = 0;
            while (at < length && tape[at] >= '0' && tape[at] <= '9') {
                // beyond all that is ever said it need not grow, and must not go round
                if (number < HUGE) {
                    number = number * 10 + tape[at] - '0';
                }
                at++;
            }
        }

        private void readWord() {
            letters = 0;
            int shift = 25;
            while (at < length && tape[at] >= 'a' && tape[at] <= 'z') {
                if (shift >= 0) {
                    letters |= tape[at] - 'a' + 1 << shift;
                }
                shift -= 5;
                at++;
            }
            kind = at - place > LETTERS ? BAD : WORD;
            for (int i = 0; i < LANGUAGE_WORDS && kind == WORD; i++) {
                if (language[i] == letters) {
                    kind = FIRST_OF_LANGUAGE + i;
                }
            }
        }

        private void readSign() {
            int sign = tape[at];
            at++;
            int behind = at < length ? tape[at] : 0;
            switch (sign) {
                case ';': kind = SEMICOLON; break;
                case '(': kind = OPEN; break;
                case ')': kind = CLOSE; break;
                case '*': kind = TIMES; break;
                case '/': kind = BY; break;
                case '+': kind = PLUS; break;
                case '-': kind = MINUS; break;
                case '=': kind = SAME; break;
                case '<': kind = behind == '=' ? LESS_OR_SAME : behind == '>' ? OTHER : LESS; break;
                case '>': kind = behind == '=' ? MORE_OR_SAME : MORE; break;
                default: kind = BAD; break;
            }
            if (kind == LESS_OR_SAME || kind == OTHER || kind == MORE_OR_SAME) {
                at++;
            }
        }
    }

    /** Reads a TEXT into a telling, up to the first FAULT along it. */
    private static final class Reader {
        private final Tokens tokens;
        private Telling telling;
        private int fault;
        private int faultPlace;
        private int lines;
        private boolean walled;
        /** What the latest number, name or place that was read came to. */
        private int taken;
        private int knots;
        private int open;
        private boolean deniable;
        /** Signs of an E that wait for those that bind more closely, and the open brackets. */
        private final int[] waiting = new int[MOST_KNOTS + MOST_OPEN];
        private int waits;

        Reader(Tokens tokens, Telling telling) {
            this.tokens = tokens;
            this.telling = telling;
            fault = 0;
            faultPlace = NONE;
        }

        boolean reads(Telling into, int n) {
            telling = into;
            telling.clear();
            fault = 0;
            faultPlace = NONE;
            lines = 0;
            walled = false;
            knots = 0;
            tokens.begin(n);
            for (int i = 0; i <= MOST_TAPE && tokens.kind != END; i++) {
                boolean fine;
                switch (tokens.kind) {
                    case BEAM: fine = beamLine(); break;
                    case CLOCK: fine = clockLine(); break;
                    case WALL: fine = wallLine(); break;
                    case LAW: fine = lawLine(); break;
                    case MAY: fine = mayLine(); break;
                    default: fine = refuse(NO_TOKEN_HERE); break;
                }
                if (!fine) {
                    return false;
                }
                if (tokens.kind != SEMICOLON) {
                    return refuse(NO_TOKEN_HERE);
                }
                tokens.next();
                lines++;
            }
            return true;
        }

        private boolean refuse(int kind) {
            fault = kind;
            faultPlace = tokens.place;
            return false;
        }

        private boolean beamLine() {
            int beam = telling.beams.size;
            if (beam >= MOST_BEAMS) {
                return refuse(TOO_MUCH);
            }
            tokens.next();
            if (!newName(telling.beams) || !number(0, 99)) {
                return false;
            }
            telling.give[beam] = taken;
            if (!number(0, MOST_STIFF)) {
                return false;
            }
            telling.stiff[beam] = taken;
            return true;
        }

        private boolean clockLine() {
            int clock = telling.clocks.size;
            if (clock >= MOST_CLOCKS) {
                return refuse(TOO_MUCH);
            }
            tokens.next();
            if (!newName(telling.clocks) || !toldName(telling.beams)) {
                return false;
            }
            int beam = taken;
            if (!freePlace(telling.beam, telling.place, 0, beam)) {
                return false;
            }
            telling.beam[clock] = beam;
            telling.place[clock] = taken;
            if (!number(1, 9)) {
                return false;
            }
            telling.weight[clock] = taken;
            if (!number(1, MOST_SPEED)) {
                return false;
            }
            telling.speed[clock] = taken;
            return extras(clock);
        }

        private boolean extras(int clock) {
            int seen = 0;
            // four of them can be told; the fifth is none of them, or one told already
            for (int i = 0; i <= 4; i++) {
                int[] row = extraRow(tokens.kind);
                if (row == null || clock < 0 || clock >= row.length) {
                    return true;
                }
                int kind = tokens.kind;
                if ((seen >> kind & 1) == 1) {
                    return refuse(TOLD_ALREADY);
                }
                seen |= 1 << kind;
                tokens.next();
                if (!number(kind == SWING ? 1 : 0, kind == DRIVE ? 99 : 999)) {
                    return false;
                }
                row[clock] = taken;
            }
            return true;
        }

        private int[] extraRow(int kind) {
            switch (kind) {
                case PHASE: return telling.phase;
                case DRIVE: return telling.drive;
                case SWING: return telling.swing;
                case START: return telling.start;
                default: return null;
            }
        }

        private boolean wallLine() {
            if (walled) {
                return refuse(TOLD_ALREADY);
            }
            walled = true;
            tokens.next();
            if (!number(0, 99)) {
                return false;
            }
            telling.wall = taken;
            return true;
        }

        private boolean lawLine() {
            tokens.next();
            if (tokens.kind != LOSE && tokens.kind != GO) {
                return refuse(NO_TOKEN_HERE);
            }
            Law law = tokens.kind == LOSE ? telling.lose : telling.go;
            if (law.isTold) {
                return refuse(TOLD_ALREADY);
            }
            law.isTold = true;
            tokens.next();
            return expression(law);
        }

        private boolean mayLine() {
            int may = telling.mays.size;
            if (may >= MOST_MAYS) {
                return refuse(TOO_MUCH);
            }
            tokens.next();
            if (!newName(telling.mays)) {
                return false;
            }
            // one more than there are CLOCKS: that one is told already
            for (int i = 0; i <= MOST_CLOCKS && tokens.kind == HANG; i++) {
                tokens.next();
                if (!hanging(may * MOST_CLOCKS)) {
                    return false;
                }
            }
            return true;
        }

        private boolean hanging(int from) {
            int clock = tokens.kind == WORD ? telling.clocks.find(tokens.letters) : NONE;
            int at = from + clock;
            if (clock >= 0 && at >= 0 && at < telling.mayBeam.length && telling.mayBeam[at] != NONE) {
                return refuse(TOLD_ALREADY);
            }
            if (!toldName(telling.clocks) || !toldName(telling.beams)) {
                return false;
            }
            int beam = taken;
            if (!freePlace(telling.mayBeam, telling.mayPlace, from, beam)) {
                return false;
            }
            if (at >= 0 && at < telling.mayBeam.length) {
                telling.mayBeam[at] = beam;
                telling.mayPlace[at] = taken;
            }
            return true;
        }

        private boolean newName(Names names) {
            if (tokens.kind != WORD) {
                return refuse(NO_TOKEN_HERE);
            }
            if (names.find(tokens.letters) != NONE) {
                return refuse(TOLD_ALREADY);
            }
            names.add(tokens.letters);
            tokens.next();
            return true;
        }

        private boolean toldName(Names names) {
            if (tokens.kind != WORD) {
                return refuse(NO_TOKEN_HERE);
            }
            taken = names.find(tokens.letters);
            if (taken == NONE) {
                return refuse(NOT_TOLD);
            }
            tokens.next();
            return true;
        }

        private boolean number(int lowest, int highest) {
            if (tokens.kind != NUMBER) {
                return refuse(NO_TOKEN_HERE);
            }
            if (tokens.number < lowest || tokens.number > highest) {
                return refuse(TOO_MUCH);
            }
            taken = tokens.number;
            tokens.next();
            return true;
        }

        private boolean freePlace(int[] beams, int[] places, int from, int beam) {
            if (tokens.kind == NUMBER && isTaken(beams, places, from, beam, tokens.number)) {
                return refuse(PLACE_TAKEN);
            }
            return number(0, MOST_PLACE);
        }

        private boolean expression(Law law) {
            waits = 0;
            open = 0;
            deniable = true;
            boolean valueNext = true;
            for (int i = 0; i <= MOST_TAPE; i++) {
                if (valueNext && isValue()) {
                    if (!value(law)) {
                        return false;
                    }
                    valueNext = false;
                } else if (valueNext) {
                    if (!opening()) {
                        return false;
                    }
                } else if (rank(tokens.kind) > 0 && tokens.kind != NOT) {
                    if (!joining(law)) {
                        return false;
                    }
                    valueNext = true;
                } else if (tokens.kind == CLOSE && open > 0) {
                    closing(law);
                } else {
                    break;
                }
            }
            if (valueNext || open > 0) {
                return refuse(NO_TOKEN_HERE);
            }
            release(law, 1);
            return true;
        }

        private boolean isValue() {
            return tokens.kind == NUMBER || tokens.kind >= SPEED && tokens.kind <= COUNT;
        }

        private boolean value(Law law) {
            if (tokens.kind == NUMBER && tokens.number > 9999 || !oneKnotMore()) {
                return refuse(TOO_MUCH);
            }
            law.add(tokens.kind, tokens.number);
            tokens.next();
            return true;
        }

        /** What may stand ahead of a value: an open bracket, or a not where a whole B begins. */
        private boolean opening() {
            if (tokens.kind == OPEN) {
                if (open >= MOST_OPEN) {
                    return refuse(TOO_MUCH);
                }
                open++;
                deniable = true;
            } else if (tokens.kind != NOT || !deniable) {
                return refuse(NO_TOKEN_HERE);
            } else if (!oneKnotMore()) {
                return refuse(TOO_MUCH);
            }
            await(tokens.kind);
            tokens.next();
            return true;
        }

        private boolean joining(Law law) {
            int kind = tokens.kind;
            boolean comparison = kind >= LESS && kind <= MORE;
            // a C has one comparison: the one ahead, if it still waits, is of the same C
            release(law, comparison ? rank(kind) + 1 : rank(kind));
            if (comparison && waits > 0 && rank(waiting[waits - 1]) == rank(kind)) {
                return refuse(NO_TOKEN_HERE);
            }
            if (!oneKnotMore()) {
                return refuse(TOO_MUCH);
            }
            await(kind);
            deniable = kind == AND || kind == OR;
            tokens.next();
            return true;
        }

        private void closing(Law law) {
            release(law, 1);
            if (waits > 0) {
                waits--;
            }
            open--;
            tokens.next();
        }

        private boolean oneKnotMore() {
            knots++;
            return knots <= MOST_KNOTS;
        }

        private void await(int kind) {
            if (waits < waiting.length) {
                waiting[waits] = kind;
                waits++;
            }
        }

        /** Signs that bind at least so closely stand behind what they join; an open bracket holds the rest. */
        private void release(Law law, int closely) {
            while (waits > 0 && rank(waiting[waits - 1]) >= closely) {
                waits--;
                law.add(waiting[waits], 0);
            }
        }

        /** How closely a sign binds; 0: it is none. */
        private static int rank(int kind) {
            switch (kind) {
                case TIMES: return 6;
                case BY: return 6;
                case PLUS: return 5;
                case MINUS: return 5;
                case NOT: return 3;
                case AND: return 2;
                case OR: return 1;
                default: return kind >= LESS && kind <= MORE ? 4 : 0;
            }
        }
    }

    /** The CLOCKS as they hang and go: now, in an IMAGE, in a RUN. */
    private static final class Motion {
        private Telling telling;
        private int clocks;
        private int step;
        private int wall;
        private boolean lossless;
        private final int[] stiff = new int[MOST_BEAMS];
        private final int[] beam = new int[MOST_CLOCKS];
        private final int[] place = new int[MOST_CLOCKS];
        private final int[] weight = new int[MOST_CLOCKS];
        private final int[] speed = new int[MOST_CLOCKS];
        private final int[] start = new int[MOST_CLOCKS];
        private final int[] phase = new int[MOST_CLOCKS];
        private final int[] swing = new int[MOST_CLOCKS];
        private final int[] count = new int[MOST_CLOCKS];
        private final int[] state = new int[MOST_CLOCKS];
        /** WEIGHT of the other times REACH, a row of six for each one. */
        private final int[] bonds = new int[MOST_CLOCKS * MOST_CLOCKS];
        private final int[] pulls = new int[MOST_CLOCKS];
        private final long[] names = new long[NAME_KINDS];
        /** The CLOCKS that struck in the latest STEP (bits). */
        private int struck;

        Motion(Telling telling) {
            this.telling = telling;
            clocks = 0;
            for (int i = 0; i < MOST_CLOCKS; i++) {
                beam[i] = NONE;
            }
        }

        /** All as told, STEP 0 next, but hung like this. */
        void begin(Telling from, int[] beams, int[] places) {
            telling = from;
            clocks = from.clocks.size;
            step = 0;
            wall = from.wall;
            lossless = false;
            struck = 0;
            copy(from.stiff, stiff);
            copy(beams, beam);
            copy(places, place);
            copy(from.weight, weight);
            copy(from.speed, speed);
            copy(from.start, start);
            copy(from.phase, phase);
            copy(from.swing, swing);
            for (int i = 0; i < MOST_CLOCKS; i++) {
                count[i] = 0;
                state[i] = WAITS;
            }
            measure();
        }

        /** All as in another motion of the same TEXT. */
        void take(Motion from) {
            begin(from.telling, from.beam, from.place);
            step = from.step;
            copy(from.phase, phase);
            copy(from.swing, swing);
            copy(from.count, count);
            copy(from.state, state);
        }

        private static void copy(int[] from, int[] to) {
            System.arraycopy(from, 0, to, 0, from.length < to.length ? from.length : to.length);
        }

        /** The REACHES, anew after all that changes them. */
        void measure() {
            for (int one = 0; one < clocks; one++) {
                for (int other = 0; other < clocks; other++) {
                    bonds[one * MOST_CLOCKS + other] = one == other ? 0 : weight[other] * reachOf(one, other);
                }
            }
        }

        int reachOf(int one, int other) {
            int on = beam[one];
            if (on != beam[other] || on < 0 || on >= MOST_BEAMS) {
                return wall;
            }
            int reach = telling.give[on] - stiff[on] * distance(place[one], place[other]);
            return reach < 0 ? 0 : reach;
        }

        void leaveAlone(int clock) {
            for (int i = 0; i < clocks; i++) {
                if (i != clock) {
                    start[i] = NONE;
                }
            }
        }

        void go(int n) {
            for (int i = 0; i < n; i++) {
                advance();
            }
        }

        void advance() {
            for (int i = 0; i < clocks; i++) {
                if (state[i] == WAITS && start[i] == step) {
                    state[i] = RUNS;
                }
            }
            weighPulls();
            struck = 0;
            for (int i = 0; i < clocks; i++) {
                if (state[i] == RUNS) {
                    move(i);
                }
            }
            step++;
        }

        int pullOf(int clock) {
            weighPulls();
            return pulls[clock];
        }

        /** LEAN of two is the same either way but for its sign, so each two are asked once. */
        private void weighPulls() {
            for (int i = 0; i < clocks; i++) {
                pulls[i] = 0;
            }
            for (int one = 0; one < clocks; one++) {
                if (state[one] == RUNS) {
                    for (int other = one + 1; other < clocks; other++) {
                        if (state[other] == RUNS) {
                            int lean = leanOf(phase[other] - phase[one]);
                            pulls[one] += bonds[one * MOST_CLOCKS + other] * lean;
                            pulls[other] -= bonds[other * MOST_CLOCKS + one] * lean;
                        }
                    }
                }
            }
        }

        private static int leanOf(int ahead) {
            int d = ahead;
            if (d < -HALF) {
                d += ROUND;
            } else if (d >= HALF) {
                d -= ROUND;
            }
            if (d > 250) {
                return HALF - d;
            }
            return d < -250 ? -HALF - d : d;
        }

        private void move(int i) {
            names[SPEED - SPEED] = speed[i];
            names[SWING - SPEED] = swing[i];
            names[PULL - SPEED] = pulls[i] / 1000;
            names[WEIGHT - SPEED] = weight[i];
            names[PLACE - SPEED] = place[i];
            names[STEP - SPEED] = step;
            names[COUNT - SPEED] = count[i];
            int loss = lossless ? 0 : telling.lose.worth(names, 999, 0);
            swing[i] = between(0, swing[i] + telling.drive[i] - loss, 999);
            if (swing[i] == 0) {
                state[i] = STOPPED;
                return;
            }
            names[SWING - SPEED] = swing[i];
            int mass = 1000 * weight[i];
            int tug = mass == 0 ? 0 : pulls[i] / mass;
            phase[i] += between(0, telling.go.worth(names, 99, speed[i]) + tug, 499);
            if (phase[i] >= ROUND) {
                phase[i] -= ROUND;
                count[i]++;
                struck |= 1 << i;
            }
        }

        /** Those that RUN (bits). */
        int runners() {
            int bits = 0;
            for (int i = 0; i < clocks; i++) {
                if (state[i] == RUNS) {
                    bits |= 1 << i;
                }
            }
            return bits;
        }

        int groupOf(int clock, int n) {
            int running = runners();
            int bits = running & 1 << clock;
            // each round but the last brings one more at least
            for (int round = 0; round < clocks; round++) {
                for (int one = 0; one < clocks; one++) {
                    for (int other = 0; other < clocks && (bits >> one & 1) == 1; other++) {
                        if (apartOf(phase[one], phase[other]) <= n) {
                            bits |= running & 1 << other;
                        }
                    }
                }
            }
            return bits;
        }

        /** Whether all RUN and each two are IN STEP. */
        boolean isTogether(int w) {
            for (int one = 0; one < clocks; one++) {
                if (state[one] != RUNS) {
                    return false;
                }
                for (int other = 0; other < one; other++) {
                    if (apartOf(phase[one], phase[other]) > w) {
                        return false;
                    }
                }
            }
            return true;
        }

        int allCounts() {
            int sum = 0;
            for (int i = 0; i < clocks; i++) {
                sum += count[i];
            }
            return sum;
        }
    }

    /** What the STEPS that went by left behind; it is read up to the next STEP only, so going back forgets. */
    private static final class Story {
        private final short[] phases = new short[MOST_STEPS * MOST_CLOCKS];
        private final byte[] strokes = new byte[MOST_STEPS];

        /** The STEP that a motion has just ended. */
        void tell(Motion motion) {
            int step = motion.step - 1;
            if (step < 0 || step >= MOST_STEPS) {
                return;
            }
            strokes[step] = (byte) motion.struck;
            for (int i = 0; i < motion.clocks; i++) {
                phases[step * MOST_CLOCKS + i] = (short) motion.phase[i];
            }
        }

        int phaseAt(int clock, int step) {
            int at = step * MOST_CLOCKS + clock;
            return at < 0 || at >= phases.length ? NONE : phases[at];
        }

        int strokeStep(int clock, int k, int next) {
            int left = k;
            for (int step = 0; step < next && step < MOST_STEPS; step++) {
                if ((strokes[step] >> clock & 1) == 1) {
                    if (left == 0) {
                        return step;
                    }
                    left--;
                }
            }
            return SPENT;
        }

        int fallsUpTo(int next) {
            int falls = 0;
            for (int step = 0; step < next && step < MOST_STEPS; step++) {
                if (isFall(step)) {
                    falls++;
                }
            }
            return falls;
        }

        int fallStep(int k, int next) {
            int left = k;
            for (int step = 0; step < next && step < MOST_STEPS; step++) {
                if (isFall(step)) {
                    if (left == 0) {
                        return step;
                    }
                    left--;
                }
            }
            return SPENT;
        }

        private boolean isFall(int step) {
            return Integer.bitCount(strokes[step]) >= 2;
        }
    }

    /** What was done by hand since the latest STEP, the latest twenty: how the CLOCK was ahead of it. */
    private static final class Hand {
        private static final int FIELDS = 5;

        private final int[] rows = new int[MOST_UNDONE * FIELDS];
        private int size;

        void forget() {
            size = 0;
        }

        void note(Motion motion, int clock) {
            if (size >= MOST_UNDONE) {
                System.arraycopy(rows, FIELDS, rows, 0, (MOST_UNDONE - 1) * FIELDS);
                size = MOST_UNDONE - 1;
            }
            int at = size * FIELDS;
            rows[at] = clock;
            rows[at + 1] = motion.beam[clock];
            rows[at + 2] = motion.place[clock];
            rows[at + 3] = motion.swing[clock];
            rows[at + 4] = motion.state[clock];
            size++;
        }

        boolean takeBack(Motion motion) {
            if (size <= 0) {
                return false;
            }
            size--;
            int at = size * FIELDS;
            int clock = rows[at];
            if (clock >= 0 && clock < MOST_CLOCKS) {
                motion.beam[clock] = rows[at + 1];
                motion.place[clock] = rows[at + 2];
                motion.swing[clock] = rows[at + 3];
                motion.state[clock] = rows[at + 4];
            }
            return true;
        }
    }

    /** What was HEARD, and by how many it is KNOWN. */
    private static final class Hearing {
        private static final int SILENT = 0;
        private static final int STRUCK = 1;
        private static final int STRIKE = 2;

        private final int[] kinds = new int[MOST_HEARD];
        /** The STEP; of a STRIKE the number that it strikes. */
        private final int[] targets = new int[MOST_HEARD];
        private final int[] who = new int[MOST_HEARD];
        private final boolean[] counts = new boolean[MOST_HEARD];
        private int size;
        private int bound = NONE;

        void forget() {
            size = 0;
            bound = NONE;
        }

        int add(int kind, int target, int clocks) {
            if (size >= MOST_HEARD) {
                return NONE;
            }
            kinds[size] = kind;
            targets[size] = target;
            who[size] = clocks;
            size++;
            return size - 1;
        }

        int asked() {
            return bound == NONE ? size : bound;
        }

        /** Which are KNOWN: a STRIKE comes behind what it strikes, so the last ones are settled first. */
        void settle() {
            int most = asked();
            for (int i = 0; i < MOST_HEARD; i++) {
                counts[i] = i < most;
            }
            for (int i = MOST_HEARD - 1; i >= 0; i--) {
                if (counts[i] && kinds[i] == STRIKE && targets[i] >= 0 && targets[i] < i) {
                    counts[targets[i]] = false;
                }
            }
        }

        int lastStep() {
            int last = NONE;
            for (int i = 0; i < MOST_HEARD; i++) {
                if (counts[i] && kinds[i] != STRIKE && targets[i] > last) {
                    last = targets[i];
                }
            }
            return last;
        }

        boolean agrees(byte[] strokes) {
            for (int i = 0; i < MOST_HEARD; i++) {
                int step = targets[i];
                if (counts[i] && kinds[i] != STRIKE && step >= 0 && step < strokes.length) {
                    boolean struck = (strokes[step] & who[i]) != 0;
                    if (struck != (kinds[i] == STRUCK)) {
                        return false;
                    }
                }
            }
            return true;
        }
    }

    /** The LEAST moving, kept for the next question about the same. */
    private static final class Least {
        private static final int PLACES = 10;

        private final Motion trial;
        private Motion hung;
        private final int[] beam = new int[MOST_CLOCKS];
        private final int[] place = new int[MOST_CLOCKS];
        private final int[] own = new int[MOST_CLOCKS];
        private final int[] moved = new int[6];
        private int moves;
        private boolean found;
        private int told;
        private int n;
        private int k;

        Least(Motion trial) {
            this.trial = trial;
            hung = trial;
        }

        void forget() {
            found = false;
        }

        void find(Motion now, int clocks, int n, int k) {
            if (found && told == clocks && this.n == n && this.k == k) {
                return;
            }
            found = true;
            hung = now;
            told = clocks;
            this.n = n;
            this.k = k;
            for (int i = 0; i < 6; i++) {
                moved[i] = NONE;
            }
            hear();
            putBack();
            if (keepsTime()) {
                moves = 0;
            } else if (moveOne()) {
                moves = 1;
            } else {
                moves = moveTwo() ? 2 : SPENT;
            }
        }

        private void hear() {
            for (int clock = 0; clock < hung.clocks; clock++) {
                if ((told >> clock & 1) == 1) {
                    trial.begin(hung.telling, hung.beam, hung.place);
                    trial.leaveAlone(clock);
                    trial.go(n);
                    own[clock] = trial.count[clock];
                }
            }
        }

        private void putBack() {
            for (int i = 0; i < MOST_CLOCKS; i++) {
                beam[i] = hung.beam[i];
                place[i] = hung.place[i];
            }
        }

        /** A CLOCK with a BEAM and PLACE is one number, so that these go up by CLOCK, BEAM, PLACE. */
        private int spots() {
            return hung.telling.beams.size * PLACES;
        }

        private boolean moveOne() {
            int spots = spots();
            for (int one = 0; one < hung.clocks * spots; one++) {
                putBack();
                if (put(one, spots, 0) && allApart() && keepsTime()) {
                    return true;
                }
            }
            return false;
        }

        private boolean moveTwo() {
            int spots = spots();
            for (int one = 0; one < hung.clocks * spots; one++) {
                int behind = spots == 0 ? 0 : (one / spots + 1) * spots;
                for (int other = behind; other < hung.clocks * spots; other++) {
                    putBack();
                    if (put(one, spots, 0) && put(other, spots, 3) && allApart() && keepsTime()) {
                        return true;
                    }
                }
            }
            return false;
        }

        /** Hangs a CLOCK elsewhere, and writes down how; false: it hangs there now. */
        private boolean put(int number, int spots, int from) {
            int clock = spots == 0 ? 0 : number / spots;
            int spot = spots == 0 ? 0 : number % spots;
            int on = spot / PLACES;
            int at = spot % PLACES;
            if (clock >= MOST_CLOCKS || hung.beam[clock] == on && hung.place[clock] == at) {
                return false;
            }
            beam[clock] = on;
            place[clock] = at;
            moved[from] = clock;
            moved[from + 1] = on;
            moved[from + 2] = at;
            return true;
        }

        private boolean allApart() {
            for (int one = 0; one < hung.clocks; one++) {
                for (int other = 0; other < one; other++) {
                    if (beam[one] == beam[other] && place[one] == place[other]) {
                        return false;
                    }
                }
            }
            return true;
        }

        private boolean keepsTime() {
            trial.begin(hung.telling, beam, place);
            for (int step = 0; step < n; step++) {
                trial.advance();
            }
            for (int clock = 0; clock < hung.clocks; clock++) {
                if ((told >> clock & 1) == 1 && distance(trial.count[clock], own[clock]) > k) {
                    return false;
                }
            }
            return true;
        }
    }

    /** The ORDER of starting, kept for the next question about the same. */
    private static final class Order {
        private final Motion trial;
        private final int[] line = new int[MOST_CLOCKS];
        private final int[] best = new int[MOST_CLOCKS];
        private int earliest;
        private boolean found;
        private int n;
        private int g;
        private int w;

        Order(Motion trial) {
            this.trial = trial;
        }

        void forget() {
            found = false;
        }

        void find(Motion now, int n, int g, int w) {
            if (found && this.n == n && this.g == g && this.w == w) {
                return;
            }
            found = true;
            this.n = n;
            this.g = g;
            this.w = w;
            earliest = SPENT;
            for (int i = 0; i < MOST_CLOCKS; i++) {
                line[i] = i;
            }
            int lastStart = (now.clocks - 1) * g;
            boolean more = lastStart < n;
            // six CLOCKS have 720 orders
            for (int i = 0; i < 720 && more; i++) {
                tryLine(now);
                // none is earlier than the last start; without a gap all orders are one
                more = g > 0 && earliest != lastStart && nextLine(now.clocks);
            }
        }

        private void tryLine(Motion now) {
            int bound = earliest == SPENT ? n : earliest;
            trial.begin(now.telling, now.beam, now.place);
            for (int i = 0; i < now.clocks; i++) {
                trial.start[line[i]] = i * g;
            }
            int first = SPENT;
            for (int step = 0; step < n; step++) {
                trial.advance();
                if (!trial.isTogether(w)) {
                    first = SPENT;
                    if (step + 1 >= bound) {
                        return;
                    }
                } else if (first == SPENT) {
                    first = step;
                }
            }
            if (first != SPENT && first < bound) {
                earliest = first;
                System.arraycopy(line, 0, best, 0, MOST_CLOCKS);
            }
        }

        /** The next order by CLOCKS; false behind the last one. */
        private boolean nextLine(int size) {
            int at = size - 2;
            while (at >= 0 && line[at] > line[at + 1]) {
                at--;
            }
            if (at < 0) {
                return false;
            }
            int with = size - 1;
            while (with > at && line[with] < line[at]) {
                with--;
            }
            swap(at, with);
            for (int low = at + 1, high = size - 1; low < high; low++, high--) {
                swap(low, high);
            }
            return true;
        }

        private void swap(int one, int other) {
            int held = line[one];
            line[one] = line[other];
            line[other] = held;
        }
    }
}
