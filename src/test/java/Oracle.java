import java.math.BigInteger;
import java.util.ArrayList;
import java.util.Arrays;
import java.util.List;
import java.util.regex.Matcher;
import java.util.regex.Pattern;

/** The document once more, written slowly and another way: trees, lists and no shortcuts. */
final class Oracle {
    static final int NO_CLOCK = 1000000;
    static final int NO_WHAT = 2000000;
    private static final List<String> LANGUAGE = Arrays.asList("beam", "clock", "phase", "drive", "swing", "start",
            "wall", "law", "lose", "go", "may", "hang", "or", "and", "not", "speed", "pull", "weight", "place",
            "step", "count");
    private static final List<String> NAMES = Arrays.asList("speed", "swing", "pull", "weight", "place", "step",
            "count");
    private static final List<String> COMPARISONS = Arrays.asList("<", "<=", "=", "<>", ">=", ">");

    static final class Refused extends Exception {
        final int kind;
        final int place;

        Refused(int kind, int place) {
            this.kind = kind;
            this.place = place;
        }
    }

    static final class Wrong extends Exception {
    }

    static final class Node {
        final String sign;
        final Node one;
        final Node other;

        Node(String sign, Node one, Node other) {
            this.sign = sign;
            this.one = one;
            this.other = other;
        }

        BigInteger value(long[] names) throws Wrong {
            if (one == null) {
                int name = NAMES.indexOf(sign);
                return name >= 0 ? BigInteger.valueOf(names[name]) : new BigInteger(sign);
            }
            BigInteger a = one.value(names);
            BigInteger b = other == null ? BigInteger.ZERO : other.value(names);
            BigInteger v = join(a, b);
            if (v.abs().compareTo(BigInteger.TEN.pow(12)) > 0) {
                throw new Wrong();
            }
            return v;
        }

        private BigInteger join(BigInteger a, BigInteger b) throws Wrong {
            boolean yes;
            switch (sign) {
                case "+": return a.add(b);
                case "-": return a.subtract(b);
                case "*": return a.multiply(b);
                case "/":
                    if (b.signum() == 0) {
                        throw new Wrong();
                    }
                    return a.divide(b);
                case "not": yes = a.signum() == 0; break;
                case "and": yes = a.signum() != 0 && b.signum() != 0; break;
                case "or": yes = a.signum() != 0 || b.signum() != 0; break;
                case "<": yes = a.compareTo(b) < 0; break;
                case "<=": yes = a.compareTo(b) <= 0; break;
                case "=": yes = a.compareTo(b) == 0; break;
                case "<>": yes = a.compareTo(b) != 0; break;
                case ">=": yes = a.compareTo(b) >= 0; break;
                default: yes = a.compareTo(b) > 0; break;
            }
            return yes ? BigInteger.ONE : BigInteger.ZERO;
        }
    }

    static final class Beam {
        String name;
        int give;
        int stiff;
    }

    static final class Clock {
        String name;
        int beam;
        int place;
        int weight;
        int speed;
        int phase = 0;
        int drive = 0;
        int swing = 500;
        int start = 0;
    }

    static final class May {
        String name;
        final List<int[]> hangs = new ArrayList<>();
    }

    static final class Text {
        final List<Beam> beams = new ArrayList<>();
        final List<Clock> clocks = new ArrayList<>();
        final List<May> mays = new ArrayList<>();
        Node lose;
        Node go;
        int wall = 0;
        int knots = 0;
        int lines = 0;
    }

    /** All tokens first, then a recursive descent over them. */
    static final class Parser {
        private final List<String> words = new ArrayList<>();
        private final List<Integer> places = new ArrayList<>();
        private int at = 0;
        private int open = 0;
        private boolean walled = false;
        private final Text text = new Text();

        Parser(String source) {
            Matcher m = Pattern.compile("[a-z]+|[0-9]+|<=|>=|<>|[^ \n]", Pattern.DOTALL).matcher(source);
            while (m.find()) {
                words.add(m.group());
                places.add(m.start());
            }
            words.add("");
            places.add(source.length());
        }

        private String now() {
            return words.get(at);
        }

        private Refused refuse(int kind) {
            return new Refused(kind, places.get(at));
        }

        Text parse() throws Refused {
            while (!now().equals("")) {
                line();
                if (!now().equals(";")) {
                    throw refuse(1);
                }
                at++;
                text.lines++;
            }
            return text;
        }

        private void line() throws Refused {
            switch (now()) {
                case "beam": {
                    limit(text.beams.size(), 3);
                    at++;
                    Beam b = new Beam();
                    b.name = name();
                    for (Beam x : text.beams) {
                        toldAlready(x.name.equals(b.name));
                    }
                    at++;
                    b.give = number(0, 99);
                    b.stiff = number(0, 99);
                    text.beams.add(b);
                    break;
                }
                case "clock": clock(); break;
                case "wall":
                    toldAlready(walled);
                    walled = true;
                    at++;
                    text.wall = number(0, 99);
                    break;
                case "law": {
                    at++;
                    boolean lose = now().equals("lose");
                    if (!lose && !now().equals("go")) {
                        throw refuse(1);
                    }
                    toldAlready((lose ? text.lose : text.go) != null);
                    at++;
                    open = 0;
                    Node e = any();
                    if (lose) {
                        text.lose = e;
                    } else {
                        text.go = e;
                    }
                    break;
                }
                case "may": may(); break;
                default: throw refuse(1);
            }
        }

        private void clock() throws Refused {
            limit(text.clocks.size(), 6);
            at++;
            Clock c = new Clock();
            c.name = name();
            for (Clock x : text.clocks) {
                toldAlready(x.name.equals(c.name));
            }
            at++;
            c.beam = beam();
            int place = at;
            c.place = number(0, 30);
            for (Clock x : text.clocks) {
                if (x.beam == c.beam && x.place == c.place) {
                    throw new Refused(5, places.get(place));
                }
            }
            c.weight = number(1, 9);
            c.speed = number(1, 99);
            List<String> seen = new ArrayList<>();
            while (Arrays.asList("phase", "drive", "swing", "start").contains(now())) {
                String what = now();
                toldAlready(seen.contains(what));
                seen.add(what);
                at++;
                switch (what) {
                    case "phase": c.phase = number(0, 999); break;
                    case "drive": c.drive = number(0, 99); break;
                    case "swing": c.swing = number(1, 999); break;
                    default: c.start = number(0, 999); break;
                }
            }
            text.clocks.add(c);
        }

        private void may() throws Refused {
            limit(text.mays.size(), 4);
            at++;
            May m = new May();
            m.name = name();
            for (May x : text.mays) {
                toldAlready(x.name.equals(m.name));
            }
            at++;
            while (now().equals("hang")) {
                at++;
                String who = name();
                int clock = -1;
                for (int i = 0; i < text.clocks.size(); i++) {
                    if (text.clocks.get(i).name.equals(who)) {
                        clock = i;
                    }
                }
                if (clock < 0) {
                    throw refuse(4);
                }
                for (int[] h : m.hangs) {
                    toldAlready(h[0] == clock);
                }
                at++;
                int beam = beam();
                int place = at;
                int where = number(0, 30);
                for (int[] h : m.hangs) {
                    if (h[1] == beam && h[2] == where) {
                        throw new Refused(5, places.get(place));
                    }
                }
                m.hangs.add(new int[] {clock, beam, where});
            }
            text.mays.add(m);
        }

        private void limit(int size, int most) throws Refused {
            if (size == most) {
                throw refuse(2);
            }
        }

        private void toldAlready(boolean told) throws Refused {
            if (told) {
                throw refuse(3);
            }
        }

        private String name() throws Refused {
            if (!now().matches("[a-z]{1,6}") || LANGUAGE.contains(now())) {
                throw refuse(1);
            }
            return now();
        }

        private int beam() throws Refused {
            String name = name();
            for (int i = 0; i < text.beams.size(); i++) {
                if (text.beams.get(i).name.equals(name)) {
                    at++;
                    return i;
                }
            }
            throw refuse(4);
        }

        private int number(int low, int high) throws Refused {
            if (!now().matches("[0-9]+")) {
                throw refuse(1);
            }
            BigInteger n = new BigInteger(now());
            if (n.compareTo(BigInteger.valueOf(low)) < 0 || n.compareTo(BigInteger.valueOf(high)) > 0) {
                throw refuse(2);
            }
            at++;
            return n.intValue();
        }

        private void knot() throws Refused {
            if (text.knots == 64) {
                throw refuse(2);
            }
            text.knots++;
            at++;
        }

        private Node any() throws Refused {
            Node n = all();
            while (now().equals("or")) {
                knot();
                n = new Node("or", n, all());
            }
            return n;
        }

        private Node all() throws Refused {
            Node n = denied();
            while (now().equals("and")) {
                knot();
                n = new Node("and", n, denied());
            }
            return n;
        }

        private Node denied() throws Refused {
            if (now().equals("not")) {
                knot();
                return new Node("not", denied(), null);
            }
            Node n = sum();
            if (COMPARISONS.contains(now())) {
                String sign = now();
                knot();
                n = new Node(sign, n, sum());
            }
            return n;
        }

        private Node sum() throws Refused {
            Node n = term();
            while (now().equals("+") || now().equals("-")) {
                String sign = now();
                knot();
                n = new Node(sign, n, term());
            }
            return n;
        }

        private Node term() throws Refused {
            Node n = part();
            while (now().equals("*") || now().equals("/")) {
                String sign = now();
                knot();
                n = new Node(sign, n, part());
            }
            return n;
        }

        private Node part() throws Refused {
            String word = now();
            if (word.equals("(")) {
                if (open == 8) {
                    throw refuse(2);
                }
                open++;
                at++;
                Node n = any();
                if (!now().equals(")")) {
                    throw refuse(1);
                }
                open--;
                at++;
                return n;
            }
            if (NAMES.contains(word)) {
                knot();
                return new Node(word, null, null);
            }
            int ahead = at;
            int n = number(0, 9999);
            at = ahead;
            knot();
            return new Node(String.valueOf(n), null, null);
        }
    }

    /** Clocks as they go. */
    final class World {
        int step = 0;
        int wall = text.wall;
        boolean lossless = false;
        final int[] stiff = new int[3];
        final int[] beam = new int[6];
        final int[] place = new int[6];
        final int[] weight = new int[6];
        final int[] speed = new int[6];
        final int[] start = new int[6];
        final int[] phase = new int[6];
        final int[] swing = new int[6];
        final int[] count = new int[6];
        final int[] state = new int[6];
        final List<int[]> ends = new ArrayList<>();
        final List<Integer> struck = new ArrayList<>();

        World(int[] beams, int[] places) {
            for (int i = 0; i < text.beams.size(); i++) {
                stiff[i] = text.beams.get(i).stiff;
            }
            for (int i = 0; i < clocks(); i++) {
                Clock c = text.clocks.get(i);
                beam[i] = beams == null ? c.beam : beams[i];
                place[i] = places == null ? c.place : places[i];
                weight[i] = c.weight;
                speed[i] = c.speed;
                start[i] = c.start;
                phase[i] = c.phase;
                swing[i] = c.swing;
            }
        }

        World copy() {
            World w = new World(beam, place);
            w.step = step;
            System.arraycopy(phase, 0, w.phase, 0, 6);
            System.arraycopy(swing, 0, w.swing, 0, 6);
            System.arraycopy(count, 0, w.count, 0, 6);
            System.arraycopy(state, 0, w.state, 0, 6);
            w.ends.addAll(ends);
            w.struck.addAll(struck);
            return w;
        }

        int reach(int a, int b) {
            if (beam[a] != beam[b]) {
                return wall;
            }
            return Math.max(0, text.beams.get(beam[a]).give - stiff[beam[a]] * Math.abs(place[a] - place[b]));
        }

        long pull(int a) {
            long sum = 0;
            for (int b = 0; b < clocks(); b++) {
                if (b != a && state[a] == 1 && state[b] == 1) {
                    int d = Math.floorMod(phase[b] - phase[a] + 500, 1000) - 500;
                    int lean = d > 250 ? 500 - d : d < -250 ? -500 - d : d;
                    sum += (long) weight[b] * reach(a, b) * lean;
                }
            }
            return sum;
        }

        void go() {
            for (int i = 0; i < clocks(); i++) {
                if (state[i] == 0 && start[i] == step) {
                    state[i] = 1;
                }
            }
            long[] pulls = new long[6];
            for (int i = 0; i < clocks(); i++) {
                pulls[i] = pull(i);
            }
            int bits = 0;
            for (int i = 0; i < clocks(); i++) {
                if (state[i] != 1) {
                    continue;
                }
                long[] names = {speed[i], swing[i], pulls[i] / 1000, weight[i], place[i], step, count[i]};
                long loss = lossless ? 0 : law(text.lose, names, 999, 0);
                swing[i] = (int) Math.max(0, Math.min(999, swing[i] + text.clocks.get(i).drive - loss));
                if (swing[i] == 0) {
                    state[i] = 2;
                    continue;
                }
                names[1] = swing[i];
                long way = law(text.go, names, 99, speed[i]) + pulls[i] / (1000L * weight[i]);
                phase[i] += (int) Math.max(0, Math.min(499, way));
                if (phase[i] >= 1000) {
                    phase[i] -= 1000;
                    count[i]++;
                    bits |= 1 << i;
                }
            }
            step++;
            ends.add(phase.clone());
            struck.add(bits);
        }

        private long law(Node e, long[] names, long most, long otherwise) {
            if (e == null) {
                return otherwise;
            }
            try {
                return Math.max(0, Math.min(most, e.value(names).longValue()));
            } catch (Wrong w) {
                return otherwise;
            }
        }

        World go(int n) {
            for (int i = 0; i < n; i++) {
                go();
            }
            return this;
        }

        boolean together(int w) {
            for (int a = 0; a < clocks(); a++) {
                for (int b = 0; b < clocks(); b++) {
                    if (state[a] != 1 || apart(phase[a], phase[b]) > w) {
                        return false;
                    }
                }
            }
            return true;
        }
    }

    private final List<Byte> tape = new ArrayList<>();
    private int fault = 0;
    private int faultPlace = -1;
    Text text = new Text();
    private World now = new World(null, null);
    private World image = null;
    private final List<World> undo = new ArrayList<>();
    private final List<int[]> heard = new ArrayList<>();
    private int bound = -1;

    private int clocks() {
        return text.clocks.size();
    }

    private boolean clock(int c) {
        return c >= 0 && c < clocks();
    }

    private static boolean in(int low, int n, int high) {
        return low <= n && n <= high;
    }

    static int apart(int a, int b) {
        int d = Math.abs(a - b);
        return Math.min(d, 1000 - d);
    }

    private World fresh() {
        return new World(now.beam, now.place);
    }

    int feed(int... numbers) {
        if (tape.size() + 20 > 700) {
            return -1;
        }
        for (int n : numbers) {
            for (int shift = 24; shift >= 0; shift -= 8) {
                tape.add((byte) (n >>> shift));
            }
        }
        return tape.size();
    }

    int text(int n) {
        if (n < 0 || n > tape.size()) {
            return -2;
        }
        StringBuilder s = new StringBuilder();
        for (int i = 0; i < n; i++) {
            s.append((char) (tape.get(i) & 255));
        }
        tape.clear();
        try {
            text = new Parser(s.toString()).parse();
        } catch (Refused r) {
            fault = r.kind;
            faultPlace = r.place;
            return -1;
        }
        fault = 0;
        faultPlace = -1;
        now = new World(null, null);
        image = null;
        undo.clear();
        heard.clear();
        bound = -1;
        return text.lines;
    }

    int fault(int what) {
        return what == 0 ? fault : what == 1 ? faultPlace : -1;
    }

    int named(int what, int letters) {
        List<String> names = new ArrayList<>();
        if (what == 0) {
            text.beams.forEach(b -> names.add(b.name));
        } else if (what == 1) {
            text.clocks.forEach(c -> names.add(c.name));
        } else if (what == 2) {
            text.mays.forEach(m -> names.add(m.name));
        }
        for (int i = 0; i < names.size(); i++) {
            if (Check.letters(names.get(i)) == letters) {
                return i;
            }
        }
        return -1;
    }

    int look(int c, int what) {
        if (!clock(c)) {
            return NO_CLOCK;
        }
        if (!in(0, what, 7)) {
            return NO_WHAT;
        }
        return new int[] {now.beam[c], now.place[c], now.weight[c], now.speed[c], now.phase[c], now.swing[c],
            now.count[c], now.state[c]}[what];
    }

    int reach(int a, int b) {
        return clock(a) && clock(b) && a != b ? now.reach(a, b) : -1;
    }

    int pull(int c) {
        return clock(c) ? (int) now.pull(c) : Integer.MIN_VALUE;
    }

    int steps(int n) {
        if (!in(0, n, 1000) || now.step + n > 4000) {
            return -1;
        }
        now.go(n);
        if (n > 0) {
            undo.clear();
        }
        return now.step;
    }

    int was(int c, int step) {
        return clock(c) && in(0, step, now.step - 1) ? now.ends.get(step)[c] : -1;
    }

    int stroke(int c, int k) {
        if (!clock(c) || k < 0) {
            return -1;
        }
        return nth(now.struck, 1 << c, 1, k);
    }

    private static int nth(List<Integer> struck, int mask, int atLeast, int k) {
        List<Integer> steps = new ArrayList<>();
        for (int t = 0; t < struck.size(); t++) {
            if (Integer.bitCount(struck.get(t) & mask) >= atLeast) {
                steps.add(t);
            }
        }
        return k < steps.size() ? steps.get(k) : -2;
    }

    int apartNow(int a, int b) {
        return clock(a) && clock(b) && a != b ? apart(now.phase[a], now.phase[b]) : -1;
    }

    int since(int a, int b, int n, boolean against) {
        if (!clock(a) || !clock(b) || a == b || !in(0, n, 500)) {
            return -1;
        }
        for (int first = 0; first < now.step; first++) {
            boolean all = true;
            for (int t = first; t < now.step; t++) {
                int d = apart(now.ends.get(t)[a], now.ends.get(t)[b]);
                all &= against ? d >= 500 - n : d <= n;
            }
            if (all) {
                return first;
            }
        }
        return -2;
    }

    private int bitsOfGroup(int c, int n) {
        int bits = now.state[c] == 1 ? 1 << c : 0;
        for (boolean more = bits != 0; more;) {
            more = false;
            for (int a = 0; a < clocks(); a++) {
                for (int b = 0; b < clocks(); b++) {
                    if ((bits & 1 << a) != 0 && (bits & 1 << b) == 0 && now.state[b] == 1
                            && apart(now.phase[a], now.phase[b]) <= n) {
                        bits |= 1 << b;
                        more = true;
                    }
                }
            }
        }
        return bits;
    }

    int groups(int n) {
        if (!in(0, n, 500)) {
            return -1;
        }
        java.util.Set<Integer> all = new java.util.HashSet<>();
        for (int c = 0; c < clocks(); c++) {
            if (now.state[c] == 1) {
                all.add(bitsOfGroup(c, n));
            }
        }
        return all.size();
    }

    int group(int c, int n) {
        return clock(c) && in(0, n, 500) ? bitsOfGroup(c, n) : -1;
    }

    int falls() {
        int falls = 0;
        for (int bits : now.struck) {
            falls += Integer.bitCount(bits) >= 2 ? 1 : 0;
        }
        return falls;
    }

    int fall(int k) {
        return k < 0 ? -1 : nth(now.struck, 63, 2, k);
    }

    private void note() {
        undo.add(now.copy());
        if (undo.size() > 20) {
            undo.remove(0);
        }
    }

    boolean hang(int c, int beam, int place) {
        if (!clock(c) || !in(0, beam, text.beams.size() - 1) || !in(0, place, 30)) {
            return false;
        }
        for (int i = 0; i < clocks(); i++) {
            if (now.beam[i] == beam && now.place[i] == place) {
                return false;
            }
        }
        note();
        now.beam[c] = beam;
        now.place[c] = place;
        return true;
    }

    boolean stop(int c) {
        if (!clock(c) || now.state[c] == 2) {
            return false;
        }
        note();
        now.state[c] = 2;
        now.swing[c] = 0;
        return true;
    }

    int undo() {
        if (undo.isEmpty()) {
            return -1;
        }
        now = undo.remove(undo.size() - 1);
        return undo.size();
    }

    int run(int c, int n, int what) {
        if (!clock(c) || !in(0, n, 2000) || !in(0, what, 3)) {
            return -1;
        }
        World w = fresh().go(n);
        return new int[] {w.count[c], w.phase[c], w.swing[c], w.state[c] == 1 ? 1 : 0}[what];
    }

    int own(int c, int n) {
        if (!clock(c) || !in(0, n, 2000)) {
            return -1;
        }
        World w = fresh();
        for (int i = 0; i < clocks(); i++) {
            if (i != c) {
                w.start[i] = -1;
            }
        }
        return w.go(n).count[c];
    }

    private boolean keeps(int bits, int n, int k, int[] own, int... moves) {
        World w = fresh();
        for (int i = 0; i < moves.length; i += 3) {
            if (now.beam[moves[i]] == moves[i + 1] && now.place[moves[i]] == moves[i + 2]) {
                return false;
            }
            w.beam[moves[i]] = moves[i + 1];
            w.place[moves[i]] = moves[i + 2];
        }
        for (int a = 0; a < clocks(); a++) {
            for (int b = 0; b < a; b++) {
                if (w.beam[a] == w.beam[b] && w.place[a] == w.place[b]) {
                    return false;
                }
            }
        }
        w.go(n);
        for (int c = 0; c < clocks(); c++) {
            if ((bits & 1 << c) != 0 && Math.abs(w.count[c] - own[c]) > k) {
                return false;
            }
        }
        return true;
    }

    int least(int bits, int n, int k, int what) {
        if (!in(0, bits, (1 << clocks()) - 1) || !in(0, n, 60) || !in(0, k, 99) || !in(0, what, 6)) {
            return -1;
        }
        int[] own = new int[6];
        for (int c = 0; c < clocks(); c++) {
            own[c] = own(c, n);
        }
        int[] found = leastMoves(bits, n, k, own);
        if (found == null) {
            return -2;
        }
        return what == 0 ? found.length / 3 : what - 1 < found.length ? found[what - 1] : -1;
    }

    private int[] leastMoves(int bits, int n, int k, int[] own) {
        if (keeps(bits, n, k, own)) {
            return new int[0];
        }
        int beams = text.beams.size();
        for (int c = 0; c < clocks(); c++) {
            for (int b = 0; b < beams; b++) {
                for (int p = 0; p < 10; p++) {
                    if (keeps(bits, n, k, own, c, b, p)) {
                        return new int[] {c, b, p};
                    }
                }
            }
        }
        for (int c = 0; c < clocks(); c++) {
            for (int b = 0; b < beams; b++) {
                for (int p = 0; p < 10; p++) {
                    for (int d = c + 1; d < clocks(); d++) {
                        for (int e = 0; e < beams; e++) {
                            for (int q = 0; q < 10; q++) {
                                if (keeps(bits, n, k, own, c, b, p, d, e, q)) {
                                    return new int[] {c, b, p, d, e, q};
                                }
                            }
                        }
                    }
                }
            }
        }
        return null;
    }

    int mend(int c, int n, int count) {
        if (!clock(c) || !in(0, n, 2000) || !in(0, count, 999)) {
            return Integer.MIN_VALUE;
        }
        int best = 100;
        long score = Long.MAX_VALUE;
        for (int change = -9; change <= 9; change++) {
            World w = fresh();
            w.speed[c] += change;
            if (in(1, w.speed[c], 99)) {
                long s = Math.abs(w.go(n).count[c] - count) * 100L + Math.abs(change) * 2L + (change > 0 ? 1 : 0);
                if (s < score) {
                    score = s;
                    best = change;
                }
            }
        }
        return best;
    }

    int order(int n, int g, int w, int what) {
        if (!in(1, n, 300) || !in(0, g, 99) || !in(0, w, 500) || clocks() == 0 || !in(0, what, clocks())) {
            return -1;
        }
        int[] best = {Integer.MAX_VALUE};
        int[] line = new int[clocks()];
        int[] kept = new int[clocks()];
        lines(0, 0, line, n, g, w, best, kept);
        if (best[0] == Integer.MAX_VALUE) {
            return -2;
        }
        return what == 0 ? best[0] : kept[what - 1];
    }

    private void lines(int at, int used, int[] line, int n, int g, int w, int[] best, int[] kept) {
        if (at < clocks()) {
            for (int c = 0; c < clocks(); c++) {
                if ((used & 1 << c) == 0) {
                    line[at] = c;
                    lines(at + 1, used | 1 << c, line, n, g, w, best, kept);
                }
            }
            return;
        }
        World world = fresh();
        for (int i = 0; i < clocks(); i++) {
            world.start[line[i]] = i * g;
        }
        int first = Integer.MAX_VALUE;
        for (int t = 0; t < n; t++) {
            world.go();
            first = !world.together(w) ? Integer.MAX_VALUE : Math.min(first, t);
        }
        if (first < best[0]) {
            best[0] = first;
            System.arraycopy(line, 0, kept, 0, clocks());
        }
    }

    int due(int c, int k) {
        return clock(c) && k >= 0 ? nth(fresh().go(2000).struck, 1 << c, 1, k) : -1;
    }

    int gain(int a, int b, int k) {
        int x = due(a, k);
        int y = due(b, k);
        return x < 0 || y < 0 ? Integer.MIN_VALUE : x - y;
    }

    int heard(int step, int c, boolean struck) {
        if (!in(0, step, 1999) || c != -1 && !clock(c) || heard.size() == 40) {
            return -1;
        }
        heard.add(new int[] {step, c, struck ? 1 : 0});
        return heard.size() - 1;
    }

    int strike(int which) {
        if (!in(0, which, heard.size() - 1) || heard.size() == 40) {
            return -1;
        }
        heard.add(new int[] {which});
        return heard.size() - 1;
    }

    boolean known(int n) {
        if (!in(-1, n, heard.size())) {
            return false;
        }
        bound = n;
        return true;
    }

    private boolean isStruck(int which, int most) {
        for (int i = which + 1; i < most; i++) {
            if (heard.get(i).length == 1 && heard.get(i)[0] == which && !isStruck(i, most)) {
                return true;
            }
        }
        return false;
    }

    int fits() {
        int most = bound < 0 ? heard.size() : bound;
        int bits = 0;
        for (int m = 0; m <= text.mays.size(); m++) {
            World w = new World(null, null);
            if (m < text.mays.size()) {
                for (int[] h : text.mays.get(m).hangs) {
                    w.beam[h[0]] = h[1];
                    w.place[h[0]] = h[2];
                }
            }
            w.go(2000);
            boolean all = true;
            for (int i = 0; i < most; i++) {
                int[] h = heard.get(i);
                if (h.length == 3 && !isStruck(i, most)) {
                    int mask = h[1] < 0 ? 63 : 1 << h[1];
                    all &= (w.struck.get(h[0]) & mask) != 0 == (h[2] == 1);
                }
            }
            bits |= all ? 1 << m : 0;
        }
        return bits;
    }

    int tried(int what, int i, int n, int c) {
        boolean fine = what == 0 || what == 5 ? clock(i) : what == 4 ? in(0, i, text.beams.size() - 1) : i == 0;
        if (!in(0, what, 5) || !fine || !in(0, n, 2000) || !clock(c)) {
            return -1;
        }
        World w = fresh();
        switch (what) {
            case 0: w.start[i] = -1; break;
            case 1: w.wall = 0; break;
            case 2: w.lossless = true; break;
            case 3: Arrays.fill(w.weight, 1); break;
            case 4: w.stiff[i] = Math.min(99, w.stiff[i] * 2); break;
            default: w.start[i] = 0; break;
        }
        return w.go(n).count[c];
    }

    int chance(int seed, int n, int w) {
        if (seed < 0 || !in(0, n, 500) || !in(0, w, 500)) {
            return -1;
        }
        BigInteger x = BigInteger.valueOf(seed);
        int together = 0;
        for (int draw = 0; draw < 10; draw++) {
            World world = fresh();
            for (int c = 0; c < clocks(); c++) {
                x = x.multiply(BigInteger.valueOf(1103515245)).add(BigInteger.valueOf(12345))
                        .mod(BigInteger.TWO.pow(31));
                world.phase[c] = x.divide(BigInteger.valueOf(65536)).mod(BigInteger.valueOf(1000)).intValue();
            }
            together += world.go(n).together(w) ? 1 : 0;
        }
        return together;
    }

    int keep() {
        image = now.copy();
        return now.step;
    }

    int back() {
        if (image == null) {
            return -1;
        }
        now = image.copy();
        undo.clear();
        return now.step;
    }

    int count(int what) {
        int running = 0;
        int strokes = 0;
        for (int c = 0; c < clocks(); c++) {
            running += now.state[c] == 1 ? 1 : 0;
            strokes += now.count[c];
        }
        int[] all = {text.beams.size(), clocks(), text.mays.size(), text.knots, now.step, heard.size(),
            bound < 0 ? heard.size() : bound, undo.size(), running, strokes};
        return in(0, what, 9) ? all[what] : -1;
    }
}
