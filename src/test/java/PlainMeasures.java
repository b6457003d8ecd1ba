import java.util.ArrayList;
import java.util.Arrays;
import java.util.List;
import java.util.function.IntPredicate;
import java.util.regex.Matcher;
import java.util.regex.Pattern;

/**
 * The document once more, by plain search and the Java library, to be held against the class. Nothing here is shared
 * with it: a ROOM is looked at by a pattern, an E is cut at its signs, all that is best is found by trying all.
 */
final class PlainMeasures {
    private static final int NONE = -1, BAD = -2, STATE = -3, FULL = -4;
    private static final long NO = Long.MIN_VALUE;
    private static final Pattern ROOM = pattern();
    private static final String[] KINDS = {"0", "10", "20", "30", "410", "520", "630"};

    private record Stick(int kind, int v, int length, int[] row) { }

    private record Wall(int low, int high) {
        int gap() {
            return high - low;
        }
    }

    /** All that there is; its lists are copied when it is, and what they hold never changes. */
    private static final class All {
        String tape = "";
        List<String> rooms = new ArrayList<>();
        List<Stick> sticks = new ArrayList<>();
        List<Wall> walls = new ArrayList<>();
        List<int[]> round = new ArrayList<>();
        List<Integer> marks = new ArrayList<>();
        List<int[]> book = new ArrayList<>();
        int goes;

        All copy() {
            All other = new All();
            other.tape = tape;
            other.rooms = new ArrayList<>(rooms);
            other.sticks = new ArrayList<>(sticks);
            other.walls = new ArrayList<>(walls);
            other.round = new ArrayList<>(round);
            other.marks = new ArrayList<>(marks);
            other.book = new ArrayList<>(book);
            other.goes = goes;
            return other;
        }
    }

    private All all = new All();
    private All image;
    private List<Integer> trace = new ArrayList<>();

    private static Pattern pattern() {
        String n = "(?:0|[1-9][0-9]?)";
        String factor = "[skvlnw][<=>]" + n;
        String test = factor;
        for (int open = 0; open < 5; open++) {
            String either = "(?:" + factor + ")(?:[&|](?:" + factor + "))*";
            factor = "!(?:" + factor + ")|\\((?:" + either + ")\\)|" + test;
        }
        String either = "(?:" + factor + ")(?:[&|](?:" + factor + "))*";
        String clause = "(?:(?:board|step) " + n + "|(?:off|wear) " + n + " " + either + ")";
        return Pattern.compile(clause + "(?:;" + clause + "){0,9}");
    }

    int feed(int sign) {
        if (sign < 0 || sign > 127) {
            return BAD;
        }
        if (all.tape.length() == 100) {
            return FULL;
        }
        all.tape += (char) sign;
        return all.tape.length();
    }

    int room() {
        if (all.rooms.size() == 5) {
            return FULL;
        }
        String tape = all.tape;
        all.tape = "";
        if (isRoom(tape)) {
            all.rooms.add(tape);
            return all.rooms.size() - 1;
        }
        int fault = 0;
        while (fault < tape.length() && canGoOn(tape.substring(0, fault + 1))) {
            fault++;
        }
        return -10 - fault;
    }

    static boolean isRoom(String text) {
        return ROOM.matcher(text).matches();
    }

    private static boolean canGoOn(String text) {
        Matcher matcher = ROOM.matcher(text);
        return matcher.matches() || matcher.hitEnd();
    }

    private List<String> clauses(String word) {
        List<String> found = new ArrayList<>();
        if (!all.rooms.isEmpty()) {
            for (String clause : all.rooms.get(all.rooms.size() - 1).split(";")) {
                if (clause.startsWith(word + " ")) {
                    found.add(clause.substring(word.length() + 1));
                }
            }
        }
        return found;
    }

    private int last(String word, int without) {
        List<String> told = clauses(word);
        return told.isEmpty() ? without : Integer.parseInt(told.get(told.size() - 1));
    }

    private int together(String word, int stick, int wall, int n) {
        int sum = 0;
        for (String clause : clauses(word)) {
            String[] parts = clause.split(" ");
            if (holds(parts[1], stick, wall, n)) {
                sum += Integer.parseInt(parts[0]);
            }
        }
        return sum;
    }

    /** Cuts the text at the last sign of that sort outside of all parentheses; -1 if there is none. */
    private static int cutAt(String text, char sign) {
        int open = 0;
        for (int i = text.length() - 1; i >= 0; i--) {
            char c = text.charAt(i);
            open += c == ')' ? 1 : c == '(' ? -1 : 0;
            if (open == 0 && c == sign) {
                return i;
            }
        }
        return -1;
    }

    private boolean holds(String text, int stick, int wall, int n) {
        int or = cutAt(text, '|');
        if (or >= 0) {
            return holds(text.substring(0, or), stick, wall, n) || holds(text.substring(or + 1), stick, wall, n);
        }
        int and = cutAt(text, '&');
        if (and >= 0) {
            return holds(text.substring(0, and), stick, wall, n) && holds(text.substring(and + 1), stick, wall, n);
        }
        if (text.startsWith("!")) {
            return !holds(text.substring(1), stick, wall, n);
        }
        if (text.startsWith("(")) {
            return holds(text.substring(1, text.length() - 1), stick, wall, n);
        }
        Stick one = all.sticks.get(stick);
        int[] values = {stick, one.kind, one.v, one.length / 10, n % 10, wall};
        int told = Integer.compare(values["skvlnw".indexOf(text.charAt(0))], Integer.parseInt(text.substring(2)));
        return told == "<=>".indexOf(text.charAt(1)) - 1;
    }

    int stick(int kind, int v, int length) {
        if (kind < 0 || kind > 6) {
            return NONE;
        }
        if (v < 0 || v > 9 || length < 2 || length > 60) {
            return BAD;
        }
        if (all.sticks.size() == 6) {
            return FULL;
        }
        all.sticks.add(new Stick(kind, v, length, new int[4]));
        return all.sticks.size() - 1;
    }

    private boolean noStick(int stick) {
        return stick < 0 || stick >= all.sticks.size();
    }

    private boolean noWall(int wall) {
        return wall < 0 || wall >= all.walls.size();
    }

    private static boolean out(int n, int least, int most) {
        return n < least || n > most;
    }

    int of(int stick, int what) {
        if (noStick(stick) || out(what, 0, 2)) {
            return NONE;
        }
        Stick one = all.sticks.get(stick);
        return what == 0 ? one.kind : what == 1 ? one.v : one.length;
    }

    int row(int stick, int k, int n) {
        if (noStick(stick) || out(k, 0, 3)) {
            return NONE;
        }
        if (out(n, 0, 9)) {
            return BAD;
        }
        Stick one = all.sticks.get(stick);
        if (one.kind != 6) {
            return STATE;
        }
        int[] row = one.row.clone();
        row[k] = n;
        all.sticks.set(stick, new Stick(6, one.v, one.length, row));
        return one.row[k];
    }

    int wall() {
        if (all.walls.size() == 6) {
            return FULL;
        }
        all.walls.add(new Wall(0, 999));
        return all.walls.size() - 1;
    }

    int at(int wall, int what) {
        if (noWall(wall) || out(what, 0, 2)) {
            return NONE;
        }
        Wall one = all.walls.get(wall);
        return what == 0 ? one.low : what == 1 ? one.high : one.gap();
    }

    int known(int wall, int low, int high) {
        if (noWall(wall)) {
            return NONE;
        }
        if (out(low, 0, 999) || out(high, 0, 999) || low > high) {
            return BAD;
        }
        return all.walls.set(wall, new Wall(low, high)).gap();
    }

    int told(int what) {
        return what == 0 ? all.goes : what == 1 ? last("board", 40) : what == 2 ? last("step", 1) : NONE;
    }

    private int slack(int stick, int wall, int n) {
        Stick one = all.sticks.get(stick);
        int slack = 1 + together("off", stick, wall, n);
        return one.kind == 3 || one.kind == 6 ? slack + one.v : one.kind == 4 ? slack + 1 : slack;
    }

    private int middle(int stick, int wall, int n) {
        Stick one = all.sticks.get(stick);
        int whole = n * one.length;
        int less = 0;
        if (one.kind == 1 || one.kind == 4) {
            less = n * Math.min(one.length, together("wear", stick, wall, n));
        } else if (one.kind == 2 && n > 0) {
            less = one.v;
        } else if (one.kind == 5) {
            less = Math.min(n * one.v / 2, one.length * n);
        } else if (one.kind == 6) {
            less = -one.row[n % 4];
        }
        return Math.max(0, whole - less);
    }

    private int least(int stick, int wall, int n) {
        return Math.max(0, middle(stick, wall, n) - n * slack(stick, wall, n));
    }

    private int most(int stick, int wall, int n) {
        return middle(stick, wall, n) + n * slack(stick, wall, n);
    }

    int measure(int wall, int stick, int n, int r, boolean more) {
        if (noWall(wall) || noStick(stick)) {
            return NONE;
        }
        if (out(n, 0, 30) || out(r, 0, 59)) {
            return BAD;
        }
        if (all.goes > 9900) {
            return STATE;
        }
        all.goes += n;
        int sign = more ? 1 : -1;
        Wall one = all.walls.get(wall);
        int low = Math.max(one.low, Math.max(0, least(stick, wall, n) + sign * r));
        int high = Math.min(one.high, Math.max(0, most(stick, wall, n) + sign * r));
        if (low > high) {
            return STATE;
        }
        all.walls.set(wall, new Wall(low, high));
        return high - low;
    }

    int between(int stick, int wall, int n, int what) {
        if (noStick(stick) || noWall(wall) || out(what, 0, 3)) {
            return NONE;
        }
        if (out(n, 0, 30)) {
            return BAD;
        }
        return new int[] {least(stick, wall, n), most(stick, wall, n), middle(stick, wall, n), slack(stick, wall, n)}[what];
    }

    /** The first of the ways whose first number is least, at what; ways are in the order of the document. */
    private static int first(List<int[]> ways, int what) {
        return ways.stream().min((a, b) -> Integer.compare(a[0], b[0])).map(way -> way[what]).orElse(-5);
    }

    int surest(int wall, int length, int what) {
        if (noWall(wall) || out(what, 0, 2)) {
            return NONE;
        }
        if (out(length, 1, 999)) {
            return BAD;
        }
        List<int[]> ways = new ArrayList<>();
        for (int s = 0; s < all.sticks.size(); s++) {
            for (int n = 0; n <= 30; n++) {
                int middle = middle(s, wall, n);
                if (middle <= length && middle >= length - 59) {
                    ways.add(new int[] {most(s, wall, n) - least(s, wall, n), s, n});
                }
            }
        }
        return first(ways, (what + 1) % 3);
    }

    int twice(int wall, int length, int what) {
        if (noWall(wall) || out(what, 0, 5)) {
            return NONE;
        }
        if (out(length, 1, 999)) {
            return BAD;
        }
        int size = all.sticks.size();
        int[][] middles = new int[size][10];
        int[][] slacks = new int[size][10];
        for (int i = 0; i < size * 10; i++) {
            middles[i / 10][i % 10] = middle(i / 10, wall, i % 10);
            slacks[i / 10][i % 10] = i % 10 * slack(i / 10, wall, i % 10);
        }
        List<int[]> ways = new ArrayList<>();
        for (int i = 0; i < size * size * 200; i++) {
            int taken = i % 2, b = i / 2 % 10, t = i / 20 % size, a = i / 20 / size % 10, s = i / 200 / size;
            if (middles[s][a] + (taken == 1 ? -1 : 1) * middles[t][b] == length) {
                ways.add(new int[] {slacks[s][a] + slacks[t][b], s, a, t, b, taken});
            }
        }
        return first(ways, what);
    }

    int again(int wall, int stick, int g) {
        if (noWall(wall) || noStick(stick)) {
            return NONE;
        }
        if (out(g, 0, 999)) {
            return BAD;
        }
        Wall one = all.walls.get(wall);
        List<int[]> ways = new ArrayList<>();
        for (int n = 0; n <= 30; n++) {
            ways.add(new int[] {Math.abs(middle(stick, wall, n) - one.low), n});
        }
        int n = first(ways, 1);
        int least = n * slack(stick, wall, n);
        int gap = one.gap();
        int often = 0;
        while (gap > g && often <= 60) {
            if (gap >= least) {
                gap = gap / 2 < least ? least : gap / 2;
            }
            often++;
        }
        return often > 60 ? -5 : often;
    }

    int square(int a, int b, int c) {
        if (noWall(a) || noWall(b) || noWall(c)) {
            return NONE;
        }
        Wall x = all.walls.get(a), y = all.walls.get(b), z = all.walls.get(c);
        boolean[] squares = new boolean[2 * 999 * 999 + 1];
        for (int i = z.low; i <= z.high; i++) {
            squares[i * i] = true;
        }
        boolean can = false;
        for (int i = x.low; i <= x.high && !can; i++) {
            for (int k = y.low; k <= y.high; k++) {
                can |= squares[i * i + k * k];
            }
        }
        return !can ? 0 : x.gap() + y.gap() + z.gap() == 0 ? 2 : 1;
    }

    int step(int way, int length) {
        if (way == -1) {
            all.round.clear();
            return 0;
        }
        if (out(way, 0, 3)) {
            return NONE;
        }
        if (out(length, 1, 99)) {
            return BAD;
        }
        if (all.round.size() == 8) {
            return FULL;
        }
        all.round.add(new int[] {way, length});
        return all.round.size();
    }

    private int sum(IntPredicate isWay) {
        return all.round.stream().filter(step -> isWay.test(step[0])).mapToInt(step -> step[1]).sum();
    }

    int off(int what) {
        return out(what, 0, 1) ? -1001 : sum(way -> way == what) - sum(way -> way == what + 2);
    }

    int closed(int k) {
        if (out(k, 0, all.round.size() - 1)) {
            return -1001;
        }
        int line = all.round.get(k)[0] % 2;
        int lengths = sum(way -> way % 2 == line);
        int left = off(line);
        int[] lasting = all.round.get(k);
        int share = 0;
        int last = -1;
        for (int i = 0; i < all.round.size(); i++) {
            last = all.round.get(i)[0] % 2 == line ? i : last;
        }
        for (int i = 0; i <= k; i++) {
            if (all.round.get(i)[0] % 2 == line) {
                long exact = (long) off(line) * all.round.get(i)[1];
                share = i == last ? left : (int) (Math.abs(exact) / lengths * Long.signum(exact));
                left -= share;
            }
        }
        return lasting[0] < 2 ? lasting[1] - share : lasting[1] + share;
    }

    /** The length and the cost for all lengths of the WALL together, by adding up one by one. */
    private long[] best(int wall) {
        Wall one = all.walls.get(wall);
        long[] best = null;
        int board = last("board", 40), perStep = last("step", 1);
        for (int length = one.low; length <= one.high && length <= one.low + 60; length++) {
            long cost = 0;
            for (int real = one.low; real <= one.high; real++) {
                cost += length < real ? board : (long) perStep * (length - real);
            }
            if (best == null || cost < best[1]) {
                best = new long[] {length, cost};
            }
        }
        return best;
    }

    private static long fraction(long above, long below, int part) {
        for (long by = below; by > 1; by--) {
            if (above % by == 0 && below % by == 0) {
                above /= by;
                below /= by;
            }
        }
        return part == 0 ? above : below;
    }

    int cut(int wall) {
        return noWall(wall) ? NONE : (int) best(wall)[0];
    }

    long cost(int wall, int part) {
        if (noWall(wall) || out(part, 0, 1)) {
            return NO;
        }
        return fraction(best(wall)[1], all.walls.get(wall).gap() + 1, part);
    }

    int cups(int a, int b, int wanted) {
        if (out(a, 1, 40) || out(b, 1, 40) || out(wanted, 0, 40)) {
            return BAD;
        }
        boolean[][] can = new boolean[a + 1][b + 1];
        can[0][0] = true;
        for (int moves = 0; moves < 2000; moves++) {
            boolean[][] then = new boolean[a + 1][b + 1];
            boolean anyNew = false;
            for (int x = 0; x <= a; x++) {
                for (int y = 0; y <= b; y++) {
                    if (can[x][y]) {
                        if (x == wanted || y == wanted) {
                            return moves;
                        }
                        int all = x + y;
                        int[][] next = {{x, y}, {a, y}, {x, b}, {0, y}, {x, 0},
                            {Math.max(0, all - b), Math.min(b, all)}, {Math.min(a, all), Math.max(0, all - a)}};
                        for (int[] to : next) {
                            anyNew |= !can[to[0]][to[1]] && !then[to[0]][to[1]];
                            then[to[0]][to[1]] = true;
                        }
                    }
                }
            }
            if (!anyNew) {
                return -5;
            }
            can = then;
        }
        return -5;
    }

    int mark(int place) {
        if (place == -1) {
            all.marks.clear();
            return 0;
        }
        int size = all.marks.size();
        if (out(place, 1, 999) || size > 0 && place <= all.marks.get(size - 1)) {
            return BAD;
        }
        if (size == 6) {
            return FULL;
        }
        all.marks.add(place);
        return size + 1;
    }

    private int bits(int wall, int without) {
        int bits = 0;
        for (int s = 0; s < all.sticks.size(); s++) {
            boolean fits = true;
            for (int k = 0; k < all.marks.size(); k++) {
                int place = all.marks.get(k);
                fits &= k == without || least(s, wall, k + 1) <= place && place <= most(s, wall, k + 1);
            }
            bits += fits ? 1 << s : 0;
        }
        return bits;
    }

    int whose(int wall) {
        return noWall(wall) ? NONE : bits(wall, -1);
    }

    int wrong(int wall) {
        if (noWall(wall)) {
            return NONE;
        }
        for (int k = 0; k < all.marks.size(); k++) {
            if (bits(wall, -1) == 0 && bits(wall, k) != 0) {
                return k;
            }
        }
        return -5;
    }

    long odds(int wall, int length, int part) {
        if (noWall(wall) || out(length, 0, 999) || out(part, 0, 1)) {
            return NO;
        }
        Wall one = all.walls.get(wall);
        int good = 0;
        for (int real = one.low; real <= one.high; real++) {
            good += real <= length ? 1 : 0;
        }
        return fraction(good, one.gap() + 1, part);
    }

    long mean(int part) {
        if (all.walls.isEmpty() || out(part, 0, 1)) {
            return NO;
        }
        return fraction(all.walls.stream().mapToInt(wall -> wall.low + wall.high).sum(), 2L * all.walls.size(), part);
    }

    int spread() {
        List<int[]> ways = new ArrayList<>();
        for (int i = 0; i < all.walls.size(); i++) {
            ways.add(new int[] {-all.walls.get(i).gap(), i});
        }
        return first(ways, 1);
    }

    int book(int wall, int length) {
        if (wall == -1) {
            all.book.clear();
            return 0;
        }
        if (noWall(wall)) {
            return NONE;
        }
        if (out(length, 0, 999)) {
            return BAD;
        }
        if (all.book.size() == 8) {
            return FULL;
        }
        all.book.add(new int[] {wall, length});
        return all.book.size();
    }

    int looked() {
        for (int i = 0; i < all.book.size(); i++) {
            Wall one = all.walls.get(all.book.get(i)[0]);
            if (out(all.book.get(i)[1], one.low, one.high)) {
                return i;
            }
        }
        return -5;
    }

    /** The number of the body: the first on the way up from kind at which the act has one. */
    private static int body(String way, int act) {
        List<Integer> bodies = Arrays.asList(1, 2, 3, 11, 21, 31, 41, 51, 61);
        int[] kinds = {0, 0, 0, 1, 2, 3, 4, 5, 6};
        int[] acts = {0, 1, 2, 0, 1, 2, 2, 0, 1};
        for (char kind : way.toCharArray()) {
            for (int i = 0; i < acts.length; i++) {
                if (kinds[i] == kind - '0' && acts[i] == act) {
                    return bodies.get(i);
                }
            }
        }
        return 0;
    }

    private int run(int stick, int body, int x) {
        Stick one = all.sticks.get(stick);
        String way = KINDS[one.kind];
        trace.add(body);
        switch (body) {
            case 1: return x + stick;
            case 2: return run(stick, body(way, 0), x) - one.v;
            case 3: return run(stick, body(way, 1), x) * 2;
            case 11: return run(stick, 1, x * 3);
            case 21: return -run(stick, 2, x);
            case 31: return run(stick, 3, x) ^ 7;
            case 41:
                int told = run(stick, 3, x - 1);
                return told + run(stick, body(way, 0), 2);
            case 51: return run(stick, 1, x) ^ stick;
            default: return run(stick, 2, x) + one.v;
        }
    }

    int act(int stick, int act, int x) {
        trace.clear();
        if (noStick(stick) || out(act, 0, 2)) {
            return 0;
        }
        return run(stick, body(KINDS[all.sticks.get(stick).kind], act), x);
    }

    int trace(int i) {
        return out(i, 0, Math.min(20, trace.size()) - 1) ? NONE : trace.get(i);
    }

    int as(int stick, int k) {
        if (noStick(stick) || out(k, 0, 6)) {
            return NONE;
        }
        Stick one = all.sticks.get(stick);
        return KINDS[one.kind].indexOf('0' + k) < 0 ? -6 : one.v;
    }

    int image() {
        image = all.copy();
        return all.sticks.size();
    }

    int undo() {
        if (image == null) {
            return STATE;
        }
        all = image.copy();
        return all.sticks.size();
    }

    int count(int what) {
        int[] counts = {all.sticks.size(), all.walls.size(), all.rooms.size(), all.round.size(), all.marks.size(),
            all.book.size(), all.tape.length(), trace.size()};
        return out(what, 0, 7) ? NONE : counts[what];
    }
}
