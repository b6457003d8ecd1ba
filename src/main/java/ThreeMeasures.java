import java.util.Arrays;

/** Lengths in a room, measured by sticks that are set on and set on again: ../shared/DOC.md tells every call. */
public final class ThreeMeasures {
    public static final int NONE = -1, BAD = -2, STATE = -3, FULL = -4;
    public static final long NO = Long.MIN_VALUE;

    private static final int NEVER = -5, OTHER_KIND = -6, NO_LENGTH = -1001;
    private static final int MOST_SIGNS = 100, MOST_ROOMS = 5, MOST_CLAUSES = 10, MOST_OPEN = 5;
    private static final int MOST_STICKS = 6, MOST_WALLS = 6, MOST_STEPS = 8, MOST_MARKS = 6, MOST_ROWS = 8;
    private static final int MOST_TIMES = 30, MOST_REST = 59, MOST_LENGTH = 999, MOST_GOES = 9900;
    private static final int MOST_MEASURINGS = 60, MOST_ABOVE_LOW = 60, MOST_KEPT_BODIES = 20;
    private static final int TWICE_TIMES = 10, CUP_AMOUNTS = 41;

    private static final int STICK = 0, WORN = 1, TAPE = 2, PACE = 3, SLIPPING = 4, SAGGING = 5, TOLD = 6, KINDS = 7;
    private static final int[] KIND_ABOVE = {-1, 0, 0, 0, 1, 2, 3};

    /** What a ROOM's code is made of; an op stands in the lowest three bits, its value above them. */
    private static final int TEST = 0, NOT = 1, AND = 2, OR = 3, OFF = 4, WEAR = 5;

    private final State now;
    private final State kept;
    private boolean isKept;
    private final Reader reader;
    private final Trace bodies;
    /** What the latest search found, in the order in which the document numbers it. */
    private final int[] found;
    /** For TWICE, at ten times a STICK's number and how often: MIDDLE, and SLACK times how often. */
    private final int[] middles;
    private final int[] slacks;
    /** For CUPS: how many moves away each state is (-1: not reached), and the states in the order they were reached. */
    private final int[] moves;
    private final int[] reached;

    public ThreeMeasures() {
        now = new State();
        kept = new State();
        isKept = false;
        reader = new Reader();
        bodies = new Trace();
        found = new int[6];
        middles = new int[MOST_STICKS * TWICE_TIMES];
        slacks = new int[MOST_STICKS * TWICE_TIMES];
        moves = new int[CUP_AMOUNTS * CUP_AMOUNTS];
        reached = new int[CUP_AMOUNTS * CUP_AMOUNTS];
    }

    // ---- rooms, sticks, walls

    public int feed(int sign) {
        if (sign < 0 || sign > 127) {
            return BAD;
        }
        if (now.signCount >= MOST_SIGNS) {
            return FULL;
        }
        now.signs[now.signCount] = sign;
        now.signCount++;
        return now.signCount;
    }

    public int room() {
        if (now.roomCount >= MOST_ROOMS) {
            return FULL;
        }
        Room read = reader.read(now.signs, now.signCount);
        now.signCount = 0;
        if (read == null) {
            return -10 - reader.place;
        }
        now.holding = read;
        now.roomCount++;
        return now.roomCount - 1;
    }

    public int stick(int kind, int v, int length) {
        if (kind < 0 || kind >= KINDS) {
            return NONE;
        }
        if (v < 0 || v > 9 || length < 2 || length > 60) {
            return BAD;
        }
        if (now.stickCount >= MOST_STICKS) {
            return FULL;
        }
        now.sticks[now.stickCount] = newStick(kind, now.stickCount, v, length);
        now.stickCount++;
        return now.stickCount - 1;
    }

    public int of(int stick, int what) {
        Stick one = now.stickAt(stick);
        if (one == null) {
            return NONE;
        }
        switch (what) {
            case 0: return one.kind;
            case 1: return one.v;
            case 2: return one.length;
            default: return NONE;
        }
    }

    public int row(int stick, int k, int n) {
        Stick one = now.stickAt(stick);
        if (one == null || k < 0 || k > 3) {
            return NONE;
        }
        if (n < 0 || n > 9) {
            return BAD;
        }
        if (one instanceof Told toldOne) {
            now.sticks[stick] = toldOne.changed(k, n);
            return toldOne.more(k);
        }
        return STATE;
    }

    public int wall() {
        if (now.wallCount >= MOST_WALLS) {
            return FULL;
        }
        now.lows[now.wallCount] = 0;
        now.highs[now.wallCount] = MOST_LENGTH;
        now.wallCount++;
        return now.wallCount - 1;
    }

    public int at(int wall, int what) {
        if (!now.isWall(wall)) {
            return NONE;
        }
        switch (what) {
            case 0: return now.lows[wall];
            case 1: return now.highs[wall];
            case 2: return now.gap(wall);
            default: return NONE;
        }
    }

    public int known(int wall, int low, int high) {
        if (!now.isWall(wall)) {
            return NONE;
        }
        if (low < 0 || high > MOST_LENGTH || low > high) {
            return BAD;
        }
        int before = now.gap(wall);
        now.lows[wall] = low;
        now.highs[wall] = high;
        return before;
    }

    public int told(int what) {
        switch (what) {
            case 0: return now.goes;
            case 1: return now.board();
            case 2: return now.perStep();
            default: return NONE;
        }
    }

    public int measure(int wall, int stick, int n, int r, boolean more) {
        Stick one = now.stickAt(stick);
        if (!now.isWall(wall) || one == null) {
            return NONE;
        }
        if (!isTimes(n) || r < 0 || r > MOST_REST) {
            return BAD;
        }
        if (now.goes > MOST_GOES) {
            return STATE;
        }
        now.goes += n;
        int rest = more ? r : -r;
        int low = Math.max(now.lows[wall], Math.max(0, now.least(one, wall, n) + rest));
        int high = Math.min(now.highs[wall], Math.max(0, now.most(one, wall, n) + rest));
        if (low > high) {
            return STATE;
        }
        now.lows[wall] = low;
        now.highs[wall] = high;
        return now.gap(wall);
    }

    public int between(int stick, int wall, int n, int what) {
        Stick one = now.stickAt(stick);
        if (one == null || !now.isWall(wall) || what < 0 || what > 3) {
            return NONE;
        }
        if (!isTimes(n)) {
            return BAD;
        }
        switch (what) {
            case 0: return now.least(one, wall, n);
            case 1: return now.most(one, wall, n);
            case 2: return now.middle(one, wall, n);
            default: return now.slack(one, wall, n);
        }
    }

    private static Stick newStick(int kind, int number, int v, int length) {
        switch (kind) {
            case WORN: return new Worn(number, WORN, v, length);
            case TAPE: return new Tape(number, TAPE, v, length);
            case PACE: return new Pace(number, PACE, v, length);
            case SLIPPING: return new Slipping(number, v, length);
            case SAGGING: return new Sagging(number, v, length);
            case TOLD: return new Told(number, v, length);
            default: return new Stick(number, STICK, v, length);
        }
    }

    private static boolean isTimes(int n) {
        return n >= 0 && n <= MOST_TIMES;
    }

    // ---- how to measure

    public int surest(int wall, int length, int what) {
        if (!now.isWall(wall) || what < 0 || what > 2) {
            return NONE;
        }
        if (length < 1 || length > MOST_LENGTH) {
            return BAD;
        }
        return findSurest(wall, length) ? found[what] : NEVER;
    }

    public int twice(int wall, int length, int what) {
        if (!now.isWall(wall) || what < 0 || what > 5) {
            return NONE;
        }
        if (length < 1 || length > MOST_LENGTH) {
            return BAD;
        }
        tellMiddles(wall);
        return findTwice(length) ? found[what] : NEVER;
    }

    public int again(int wall, int stick, int g) {
        Stick one = now.stickAt(stick);
        if (!now.isWall(wall) || one == null) {
            return NONE;
        }
        if (g < 0 || g > MOST_LENGTH) {
            return BAD;
        }
        int n = nearestTimes(one, wall);
        int floor = n * now.slack(one, wall, n);
        int gap = now.gap(wall);
        for (int times = 0; times <= MOST_MEASURINGS; times++) {
            if (gap <= g) {
                return times;
            }
            gap = Math.min(gap, Math.max(gap / 2, floor));
        }
        return NEVER;
    }

    public int square(int a, int b, int c) {
        if (!now.isWall(a) || !now.isWall(b) || !now.isWall(c)) {
            return NONE;
        }
        if (!canBeCorner(a, b, c)) {
            return 0;
        }
        return now.gap(a) == 0 && now.gap(b) == 0 && now.gap(c) == 0 ? 2 : 1;
    }

    private boolean findSurest(int wall, int length) {
        boolean any = false;
        for (int i = 0; i < now.stickCount; i++) {
            Stick one = now.stickAt(i);
            for (int n = 0; one != null && n <= MOST_TIMES; n++) {
                int less = length - now.middle(one, wall, n);
                int apart = now.most(one, wall, n) - now.least(one, wall, n);
                if (less >= 0 && less <= MOST_REST && (!any || apart < found[2])) {
                    any = true;
                    found[0] = i;
                    found[1] = n;
                    found[2] = apart;
                }
            }
        }
        return any;
    }

    private void tellMiddles(int wall) {
        for (int i = 0; i < now.stickCount; i++) {
            Stick one = now.stickAt(i);
            for (int n = 0; one != null && n < TWICE_TIMES; n++) {
                middles[i * TWICE_TIMES + n] = now.middle(one, wall, n);
                slacks[i * TWICE_TIMES + n] = n * now.slack(one, wall, n);
            }
        }
    }

    private boolean findTwice(int length) {
        int ways = now.stickCount * TWICE_TIMES;
        boolean any = false;
        for (int first = 0; first < ways; first++) {
            for (int second = 0; second < ways; second++) {
                int much = slacks[first] + slacks[second];
                boolean onTop = middles[first] + middles[second] == length;
                boolean takenAway = middles[first] - middles[second] == length;
                if ((onTop || takenAway) && (!any || much < found[0])) {
                    any = true;
                    found[0] = much;
                    found[1] = first / TWICE_TIMES;
                    found[2] = first % TWICE_TIMES;
                    found[3] = second / TWICE_TIMES;
                    found[4] = second % TWICE_TIMES;
                    found[5] = onTop ? 0 : 1;
                }
            }
        }
        return any;
    }

    private int nearestTimes(Stick one, int wall) {
        int nearest = 0;
        int least = -1;
        for (int n = 0; n <= MOST_TIMES; n++) {
            int away = Math.abs(now.middle(one, wall, n) - now.lows[wall]);
            if (least < 0 || away < least) {
                least = away;
                nearest = n;
            }
        }
        return nearest;
    }

    /** The bounds of y leave only sums that lie between c's squares, so that few pairs are looked at. */
    private boolean canBeCorner(int a, int b, int c) {
        int least = now.lows[c] * now.lows[c];
        int most = now.highs[c] * now.highs[c];
        for (int x = now.lows[a]; x <= now.highs[a]; x++) {
            int from = Math.max(now.lows[b], root(least - x * x - 1) + 1);
            int to = Math.min(now.highs[b], root(most - x * x));
            for (int y = from; y <= to; y++) {
                int sum = x * x + y * y;
                int z = root(sum);
                if (z * z == sum) {
                    return true;
                }
            }
        }
        return false;
    }

    /** The greatest whole number whose square is v or less; -1 if v is below 0. */
    private static int root(int v) {
        if (v < 0) {
            return -1;
        }
        int root = 0;
        for (int bit = 1 << 10; bit > 0; bit >>= 1) {
            if ((root + bit) * (root + bit) <= v) {
                root += bit;
            }
        }
        return root;
    }

    // ---- rounds

    public int step(int way, int length) {
        if (way == -1) {
            now.stepCount = 0;
            return 0;
        }
        if (way < 0 || way > 3) {
            return NONE;
        }
        if (length < 1 || length > 99) {
            return BAD;
        }
        if (now.stepCount >= MOST_STEPS) {
            return FULL;
        }
        now.stepWays[now.stepCount] = way;
        now.stepLengths[now.stepCount] = length;
        now.stepCount++;
        return now.stepCount;
    }

    public int off(int what) {
        return what == 0 || what == 1 ? offAlong(what) : NO_LENGTH;
    }

    public int closed(int k) {
        if (k < 0 || k >= now.stepCount) {
            return NO_LENGTH;
        }
        int along = now.stepWays[k] % 2;
        int share = shareOf(k, along);
        return isForward(k) ? now.stepLengths[k] - share : now.stepLengths[k] + share;
    }

    /** East and north lead forward along their lines (0 and 1), west and south back. */
    private boolean isForward(int k) {
        return now.stepWays[k] < 2;
    }

    private boolean isAlong(int k, int along) {
        return now.stepWays[k] % 2 == along;
    }

    private int offAlong(int along) {
        int off = 0;
        for (int k = 0; k < now.stepCount; k++) {
            if (isAlong(k, along)) {
                off += isForward(k) ? now.stepLengths[k] : -now.stepLengths[k];
            }
        }
        return off;
    }

    private int shareOf(int k, int along) {
        int together = 0;
        int last = -1;
        for (int i = 0; i < now.stepCount; i++) {
            if (isAlong(i, along)) {
                together += now.stepLengths[i];
                last = i;
            }
        }
        if (together == 0) {
            return 0;
        }
        int off = offAlong(along);
        if (k != last) {
            return off * now.stepLengths[k] / together;
        }
        int left = off;
        for (int i = 0; i < last; i++) {
            if (isAlong(i, along)) {
                left -= off * now.stepLengths[i] / together;
            }
        }
        return left;
    }

    // ---- cuts, cups; part 0 above, 1 below the line

    public int cut(int wall) {
        return now.isWall(wall) ? bestCut(wall) : NONE;
    }

    public long cost(int wall, int part) {
        if (!now.isWall(wall)) {
            return NO;
        }
        return fraction(costOfAll(wall, bestCut(wall)), now.gap(wall) + 1, part);
    }

    public int cups(int a, int b, int wanted) {
        int most = CUP_AMOUNTS - 1;
        if (a < 1 || a > most || b < 1 || b > most || wanted < 0 || wanted > most) {
            return BAD;
        }
        Arrays.fill(moves, -1);
        moves[0] = 0;
        reached[0] = 0;
        int end = 1;
        for (int i = 0; i < end && i < reached.length; i++) {
            int amounts = reached[i];
            if (amounts / CUP_AMOUNTS == wanted || amounts % CUP_AMOUNTS == wanted) {
                return moves[amounts];
            }
            for (int move = 0; move < 6; move++) {
                int next = afterMove(amounts / CUP_AMOUNTS, amounts % CUP_AMOUNTS, a, b, move);
                if (moves[next] < 0 && end < reached.length) {
                    moves[next] = moves[amounts] + 1;
                    reached[end] = next;
                    end++;
                }
            }
        }
        return NEVER;
    }

    private int bestCut(int wall) {
        int best = now.lows[wall];
        long least = -1;
        int to = Math.min(now.highs[wall], now.lows[wall] + MOST_ABOVE_LOW);
        for (int length = now.lows[wall]; length <= to; length++) {
            long cost = costOfAll(wall, length);
            if (least < 0 || cost < least) {
                least = cost;
                best = length;
            }
        }
        return best;
    }

    /** What a board of that length costs for each length that the WALL may have, together. */
    private long costOfAll(int wall, int length) {
        long longerWalls = now.highs[wall] - length;
        long shorterWalls = length - now.lows[wall];
        return now.board() * longerWalls + now.perStep() * (shorterWalls * (shorterWalls + 1) / 2);
    }

    /** Both amounts (x ahead) after one of the six moves of CUPS of the sizes a and b. */
    private static int afterMove(int x, int y, int a, int b, int move) {
        int over = Math.min(x, b - y);
        int back = Math.min(y, a - x);
        switch (move) {
            case 0: return a * CUP_AMOUNTS + y;
            case 1: return x * CUP_AMOUNTS + b;
            case 2: return y;
            case 3: return x * CUP_AMOUNTS;
            case 4: return (x - over) * CUP_AMOUNTS + y + over;
            default: return (x + back) * CUP_AMOUNTS + y - back;
        }
    }

    /** Part 0 (above) or 1 (below the line) of a fraction in lowest terms. */
    private static long fraction(long above, long below, int part) {
        if (part < 0 || part > 1) {
            return NO;
        }
        long divisor = above;
        long rest = below;
        for (int i = 0; i < 100 && rest != 0; i++) {
            long next = divisor % rest;
            divisor = rest;
            rest = next;
        }
        if (divisor == 0) {
            return NO;
        }
        return part == 0 ? above / divisor : below / divisor;
    }

    // ---- marks, odds, books

    public int mark(int place) {
        if (place == -1) {
            now.markCount = 0;
            return 0;
        }
        int ahead = now.markCount > 0 ? now.marks[now.markCount - 1] : 0;
        if (place <= ahead || place > MOST_LENGTH) {
            return BAD;
        }
        if (now.markCount >= MOST_MARKS) {
            return FULL;
        }
        now.marks[now.markCount] = place;
        now.markCount++;
        return now.markCount;
    }

    public int whose(int wall) {
        return now.isWall(wall) ? whoseWithout(wall, -1) : NONE;
    }

    public int wrong(int wall) {
        if (!now.isWall(wall)) {
            return NONE;
        }
        if (whoseWithout(wall, -1) != 0) {
            return NEVER;
        }
        for (int k = 0; k < now.markCount; k++) {
            if (whoseWithout(wall, k) != 0) {
                return k;
            }
        }
        return NEVER;
    }

    public long odds(int wall, int length, int part) {
        if (!now.isWall(wall) || length < 0 || length > MOST_LENGTH) {
            return NO;
        }
        int all = now.gap(wall) + 1;
        int good = Math.max(0, Math.min(all, length - now.lows[wall] + 1));
        return fraction(good, all, part);
    }

    public long mean(int part) {
        if (now.wallCount == 0) {
            return NO;
        }
        int together = 0;
        for (int i = 0; i < now.wallCount; i++) {
            together += now.lows[i] + now.highs[i];
        }
        return fraction(together, 2 * now.wallCount, part);
    }

    public int spread() {
        int widest = NEVER;
        int greatest = -1;
        for (int i = 0; i < now.wallCount; i++) {
            if (now.gap(i) > greatest) {
                greatest = now.gap(i);
                widest = i;
            }
        }
        return widest;
    }

    public int book(int wall, int length) {
        if (wall == -1) {
            now.rowCount = 0;
            return 0;
        }
        if (!now.isWall(wall)) {
            return NONE;
        }
        if (length < 0 || length > MOST_LENGTH) {
            return BAD;
        }
        if (now.rowCount >= MOST_ROWS) {
            return FULL;
        }
        now.rowWalls[now.rowCount] = wall;
        now.rowLengths[now.rowCount] = length;
        now.rowCount++;
        return now.rowCount;
    }

    public int looked() {
        for (int i = 0; i < now.rowCount; i++) {
            int wall = now.rowWalls[i];
            if (now.isWall(wall) && (now.rowLengths[i] < now.lows[wall] || now.rowLengths[i] > now.highs[wall])) {
                return i;
            }
        }
        return NEVER;
    }

    /** The STICKS, as bits, that all MARKS but one (-1: but none) can be of. */
    private int whoseWithout(int wall, int leftOut) {
        int bits = 0;
        for (int i = 0; i < now.stickCount; i++) {
            Stick one = now.stickAt(i);
            if (one != null && isMarkedBy(one, wall, leftOut)) {
                bits |= 1 << i;
            }
        }
        return bits;
    }

    private boolean isMarkedBy(Stick one, int wall, int leftOut) {
        for (int k = 0; k < now.markCount; k++) {
            int place = now.marks[k];
            if (k != leftOut && (place < now.least(one, wall, k + 1) || place > now.most(one, wall, k + 1))) {
                return false;
            }
        }
        return true;
    }

    // ---- acts, the image

    public int act(int stick, int act, int x) {
        bodies.ran = 0;
        Stick one = now.stickAt(stick);
        if (one == null) {
            return 0;
        }
        switch (act) {
            case 0: return one.sets(x, bodies);
            case 1: return one.reads(x, bodies);
            case 2: return one.tells(x, bodies);
            default: return 0;
        }
    }

    public int trace(int i) {
        if (i < 0 || i >= bodies.ran || i >= MOST_KEPT_BODIES) {
            return NONE;
        }
        return bodies.numbers[i];
    }

    public int as(int stick, int k) {
        Stick one = now.stickAt(stick);
        if (one == null || k < 0 || k >= KINDS) {
            return NONE;
        }
        int kind = one.kind;
        for (int i = 0; i < KINDS && kind >= 0 && kind < KINDS; i++) {
            if (kind == k) {
                return one.v;
            }
            kind = KIND_ABOVE[kind];
        }
        return OTHER_KIND;
    }

    public int image() {
        kept.become(now);
        isKept = true;
        return now.stickCount;
    }

    public int undo() {
        if (!isKept) {
            return STATE;
        }
        now.become(kept);
        return now.stickCount;
    }

    public int count(int what) {
        switch (what) {
            case 0: return now.stickCount;
            case 1: return now.wallCount;
            case 2: return now.roomCount;
            case 3: return now.stepCount;
            case 4: return now.markCount;
            case 5: return now.rowCount;
            case 6: return now.signCount;
            case 7: return bodies.ran;
            default: return NONE;
        }
    }

    /** All that there is, but THE IMAGE and THE TRACE. STICKS and ROOMS never change, so an image may share them. */
    private static final class State {
        private final int[] signs = new int[MOST_SIGNS];
        private int signCount;
        /** The newest ROOM; null without one. Older ones never hold again, so only their number is kept. */
        private Room holding;
        private int roomCount;
        private final Stick[] sticks = new Stick[MOST_STICKS];
        private int stickCount;
        private final int[] lows = new int[MOST_WALLS];
        private final int[] highs = new int[MOST_WALLS];
        private int wallCount;
        private int goes;
        private final int[] stepWays = new int[MOST_STEPS];
        private final int[] stepLengths = new int[MOST_STEPS];
        private int stepCount;
        private final int[] marks = new int[MOST_MARKS];
        private int markCount;
        private final int[] rowWalls = new int[MOST_ROWS];
        private final int[] rowLengths = new int[MOST_ROWS];
        private int rowCount;

        private void become(State other) {
            System.arraycopy(other.signs, 0, signs, 0, MOST_SIGNS);
            signCount = other.signCount;
            holding = other.holding;
            roomCount = other.roomCount;
            for (int i = 0; i < MOST_STICKS; i++) {
                sticks[i] = other.sticks[i];
            }
            stickCount = other.stickCount;
            System.arraycopy(other.lows, 0, lows, 0, MOST_WALLS);
            System.arraycopy(other.highs, 0, highs, 0, MOST_WALLS);
            wallCount = other.wallCount;
            goes = other.goes;
            System.arraycopy(other.stepWays, 0, stepWays, 0, MOST_STEPS);
            System.arraycopy(other.stepLengths, 0, stepLengths, 0, MOST_STEPS);
            stepCount = other.stepCount;
            System.arraycopy(other.marks, 0, marks, 0, MOST_MARKS);
            markCount = other.markCount;
            System.arraycopy(other.rowWalls, 0, rowWalls, 0, MOST_ROWS);
            System.arraycopy(other.rowLengths, 0, rowLengths, 0, MOST_ROWS);
            rowCount = other.rowCount;
        }

        private boolean isWall(int wall) {
            return wall >= 0 && wall < wallCount;
        }

        /** The STICK of that number; null if there is none. */
        private Stick stickAt(int number) {
            return number >= 0 && number < stickCount ? sticks[number] : null;
        }

        private int gap(int wall) {
            return highs[wall] - lows[wall];
        }

        private int board() {
            return holding == null ? Room.BOARD_WITHOUT : holding.board;
        }

        private int perStep() {
            return holding == null ? Room.STEP_WITHOUT : holding.perStep;
        }

        private int middle(Stick one, int wall, int n) {
            int wear = holding == null ? 0 : holding.total(WEAR, one, wall, n);
            return Math.max(0, one.middle(n, wear));
        }

        private int slack(Stick one, int wall, int n) {
            int more = holding == null ? 0 : holding.total(OFF, one, wall, n);
            return one.slack(1 + more);
        }

        private int least(Stick one, int wall, int n) {
            return Math.max(0, middle(one, wall, n) - n * slack(one, wall, n));
        }

        private int most(Stick one, int wall, int n) {
            return middle(one, wall, n) + n * slack(one, wall, n);
        }
    }

    /** What a text tells: BOARD, STEP, and the code of its off and wear, each E ahead of the op that adds its n. */
    private static final class Room {
        private static final int BOARD_WITHOUT = 40, STEP_WITHOUT = 1;

        private final int board;
        private final int perStep;
        private final int[] code;

        private Room(int board, int perStep, int[] code) {
            this.board = board;
            this.perStep = perStep;
            this.code = code;
        }

        /** The n of all clauses of a sort (OFF or WEAR) whose E holds, together. */
        private int total(int sort, Stick one, int wall, int n) {
            int total = 0;
            // a stack of truths, the latest one lowest: a text of 100 signs has fewer than 64 tests
            long truths = 0;
            for (int i = 0; i < code.length; i++) {
                int op = code[i] & 7;
                int value = code[i] >> 3;
                switch (op) {
                    case TEST:
                        truths = truths << 1 | (holds(value, one, wall, n) ? 1 : 0);
                        break;
                    case NOT:
                        truths ^= 1;
                        break;
                    case AND:
                        truths = truths >> 1 & (truths | ~1L);
                        break;
                    case OR:
                        truths = truths >> 1 | truths & 1;
                        break;
                    default:
                        total += op == sort && (truths & 1) == 1 ? value : 0;
                        truths = 0;
                        break;
                }
            }
            return total;
        }

        private static int packed(int letter, int sign, int number) {
            return (letter * 3 + sign) * 100 + number;
        }

        private static boolean holds(int packed, Stick one, int wall, int n) {
            int told;
            switch (packed / 300) {
                case 0: told = one.number; break;
                case 1: told = one.kind; break;
                case 2: told = one.v; break;
                case 3: told = one.length / 10; break;
                case 4: told = n % 10; break;
                default: told = wall; break;
            }
            int number = packed % 100;
            switch (packed / 100 % 3) {
                case 0: return told < number;
                case 1: return told == number;
                default: return told > number;
            }
        }
    }

    /** Reads a ROOM sign by sign; what can't go on leaves place at the sign that is at fault. */
    private static final class Reader {
        private static final String LETTERS = "skvlnw";
        private static final String SIGNS = "<=>";

        private final int[] code = new int[MOST_SIGNS];
        private int codeSize;
        private int[] text;
        private int size;
        private int place;
        private int number;
        private int board;
        private int perStep;

        /** The ROOM that the first signs are; null if they are none. */
        private Room read(int[] signs, int signCount) {
            text = signs;
            size = signCount;
            place = 0;
            codeSize = 0;
            board = Room.BOARD_WITHOUT;
            perStep = Room.STEP_WITHOUT;
            int clauses = 0;
            do {
                if (!takesClause()) {
                    return null;
                }
                clauses++;
            } while (clauses < MOST_CLAUSES && takes(';'));
            return place == size ? new Room(board, perStep, Arrays.copyOf(code, codeSize)) : null;
        }

        /** 0 at the end: no ROOM has that sign, so it can't be taken for one. */
        private char next() {
            return text != null && place < size && place < text.length ? (char) text[place] : 0;
        }

        private boolean takes(char sign) {
            if (next() != sign) {
                return false;
            }
            place++;
            return true;
        }

        private void emit(int op, int value) {
            if (codeSize < code.length) {
                code[codeSize] = value << 3 | op;
                codeSize++;
            }
        }

        private boolean takesClause() {
            char first = next();
            if (!takesWordAndNumber(wordOf(first))) {
                return false;
            }
            int n = number;
            if (first == 'b') {
                board = n;
                return true;
            }
            if (first == 's') {
                perStep = n;
                return true;
            }
            if (!takes(' ') || !takesEither(0)) {
                return false;
            }
            emit(first == 'o' ? OFF : WEAR, n);
            return true;
        }

        private static String wordOf(char first) {
            switch (first) {
                case 'b': return "board ";
                case 's': return "step ";
                case 'o': return "off ";
                default: return "wear ";
            }
        }

        private boolean takesWordAndNumber(String word) {
            for (int i = 0; i < word.length(); i++) {
                if (!takes(word.charAt(i))) {
                    return false;
                }
            }
            return takesNumber();
        }

        private boolean takesNumber() {
            int digit = next() - '0';
            if (digit < 0 || digit > 9) {
                return false;
            }
            number = digit;
            place++;
            digit = next() - '0';
            if (number > 0 && digit >= 0 && digit <= 9) {
                number = number * 10 + digit;
                place++;
            }
            return true;
        }

        /** E, with its Ts in a loop of their own; open: how many of ! and ( are. */
        private boolean takesEither(int open) {
            int terms = 0;
            do {
                int factors = 0;
                do {
                    if (!takesFactor(open)) {
                        return false;
                    }
                    if (factors > 0) {
                        emit(AND, 0);
                    }
                    factors++;
                } while (factors < MOST_SIGNS && takes('&'));
                if (terms > 0) {
                    emit(OR, 0);
                }
                terms++;
            } while (terms < MOST_SIGNS && takes('|'));
            return true;
        }

        /** The ! ahead of an F stay open till it ends, so that what is in its ( counts them too. */
        private boolean takesFactor(int open) {
            int nots = 0;
            while (open + nots < MOST_OPEN && takes('!')) {
                nots++;
            }
            if (next() == '(') {
                if (open + nots >= MOST_OPEN) {
                    return false;
                }
                place++;
                if (!takesEither(open + nots + 1) || !takes(')')) {
                    return false;
                }
            } else if (!takesTest()) {
                return false;
            }
            if (nots % 2 == 1) {
                emit(NOT, 0);
            }
            return true;
        }

        private boolean takesTest() {
            int letter = LETTERS.indexOf(next());
            if (letter < 0) {
                return false;
            }
            place++;
            int sign = SIGNS.indexOf(next());
            if (sign < 0) {
                return false;
            }
            place++;
            if (!takesNumber()) {
                return false;
            }
            emit(TEST, Room.packed(letter, sign, number));
            return true;
        }
    }

    /** The bodies that ran in the latest act(): how many, and the numbers of the first ones. */
    private static final class Trace {
        private final int[] numbers = new int[MOST_KEPT_BODIES];
        private int ran;

        private void begin(int body) {
            if (ran < numbers.length) {
                numbers[ran] = body;
            }
            ran++;
        }
    }

    /** A STICK never changes; its middle may be below 0, and its slack is given what it is without its KIND. */
    private static class Stick {
        final int number;
        final int kind;
        final int v;
        final int length;

        Stick(int number, int kind, int v, int length) {
            this.number = number;
            this.kind = kind;
            this.v = v;
            this.length = length;
        }

        int middle(int n, int wear) {
            return n * length;
        }

        int slack(int plain) {
            return plain;
        }

        int sets(int x, Trace bodies) {
            bodies.begin(1);
            return x + number;
        }

        int reads(int x, Trace bodies) {
            bodies.begin(2);
            return sets(x, bodies) - v;
        }

        int tells(int x, Trace bodies) {
            bodies.begin(3);
            return reads(x, bodies) * 2;
        }
    }

    private static class Worn extends Stick {
        Worn(int number, int kind, int v, int length) {
            super(number, kind, v, length);
        }
        int middle(int n, int wear) {
            return n * (length - Math.min(wear, length));
        }
        int sets(int x, Trace bodies) {
            bodies.begin(11);
            return super.sets(x * 3, bodies);
        }
    }

    private static class Tape extends Stick {
        Tape(int number, int kind, int v, int length) {
            super(number, kind, v, length);
        }
        int middle(int n, int wear) {
            return n > 0 ? n * length - v : 0;
        }
        int reads(int x, Trace bodies) {
            bodies.begin(21);
            return -super.reads(x, bodies);
        }
    }

    private static class Pace extends Stick {
        Pace(int number, int kind, int v, int length) {
            super(number, kind, v, length);
        }
        int slack(int plain) {
            return plain + v;
        }
        int tells(int x, Trace bodies) {
            bodies.begin(31);
            return super.tells(x, bodies) ^ 7;
        }
    }

    private static final class Slipping extends Worn {
        Slipping(int number, int v, int length) {
            super(number, SLIPPING, v, length);
        }
        int slack(int plain) {
            return plain + 1;
        }
        int tells(int x, Trace bodies) {
            bodies.begin(41);
            return super.tells(x - 1, bodies) + sets(2, bodies);
        }
    }

    private static final class Sagging extends Tape {
        Sagging(int number, int v, int length) {
            super(number, SAGGING, v, length);
        }
        int middle(int n, int wear) {
            return n * length - Math.min(n * v / 2, n * length);
        }
        int sets(int x, Trace bodies) {
            bodies.begin(51);
            return super.sets(x, bodies) ^ number;
        }
    }

    private static final class Told extends Pace {
        private final int[] mores;

        Told(int number, int v, int length) {
            super(number, TOLD, v, length);
            mores = new int[4];
        }

        private Told(Told before, int k, int n) {
            super(before.number, TOLD, before.v, before.length);
            mores = Arrays.copyOf(before.mores, 4);
            if (k >= 0 && k < mores.length) {
                mores[k] = n;
            }
        }

        /** As this one, but for what its ROW has at k: an image may share this one. */
        private Told changed(int k, int n) {
            return new Told(this, k, n);
        }

        private int more(int times) {
            return mores[times & 3];
        }
        int middle(int n, int wear) {
            return n * length + more(n);
        }
        int reads(int x, Trace bodies) {
            bodies.begin(61);
            return super.reads(x, bodies) + v;
        }
    }
}
