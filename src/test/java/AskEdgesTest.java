/** "Terms", part 2: each "at most", "none", "never" and -5, of several the first, wrapping: each from both sides. */
public final class AskEdgesTest {
    private static final int NONE = -1, BAD = -2, FULL = -4, NEVER = -5, OTHER = -6, NO_LENGTH = -1001;
    private static final long NO = Long.MIN_VALUE;
    private static final Due due = new Due();

    public static void main(String[] args) {
        surestLengths();
        surestFitsUpTo59Less();
        surestTimes();
        surestOfSeveral();
        twiceLengths();
        twiceUpToNine();
        twiceOfSeveral();
        againDown();
        againNearest();
        againLimits();
        squareSides();
        squareMustBe();
        stepsOfRound();
        offBelowZero();
        closedShares();
        cutsUpTo60AboveLow();
        cutsOfSeveral();
        cupSizes();
        cupMoves();
        marksRising();
        whoseFromLeastToMost();
        wrongMark();
        oddsAroundAWall();
        meanAndSpread();
        bookAndLooked();
        actsWrap();
        traceOfTwenty();
        asKinds();
        images();
        due.end();
    }

    private static ThreeMeasures one(String room, int kind, int v, int length) {
        ThreeMeasures x = room.isEmpty() ? new ThreeMeasures() : due.in(room);
        due.is("4: a STICK", x.stick(kind, v, length), 0);
        due.is("7: a WALL", x.wall(), 0);
        return x;
    }

    private static void isSurest(ThreeMeasures x, int length, int stick, int n, int much) {
        String call = "13: surest(0, " + length + ", ";
        due.is(call + "0)", x.surest(0, length, 0), stick);
        due.is(call + "1)", x.surest(0, length, 1), n);
        due.is(call + "2)", x.surest(0, length, 2), much);
    }

    /** "SUREST for a WALL and a length (1 .. 999)". */
    private static void surestLengths() {
        ThreeMeasures x = one("", 0, 0, 50);
        due.is("13: 0", x.surest(0, 0, 0), BAD);
        isSurest(x, 1, 0, 0, 0);
        isSurest(x, 999, 0, 19, 38);
        due.is("13: 1000", x.surest(0, 1000, 0), BAD);
        due.is("13: no what ahead of the STICK", x.surest(0, 1, -1), NONE);
        due.is("13: no what behind how much", x.surest(0, 1, 3), NONE);
        due.is("13: without a WALL", new ThreeMeasures().surest(0, 1, 0), NONE);
    }

    /** "MIDDLE is the length or less, at most 59 less". */
    private static void surestFitsUpTo59Less() {
        // MIDDLE of 0 .. 30 times: 0, 60, 120, ..
        ThreeMeasures x = one("", 0, 0, 60);
        isSurest(x, 59, 0, 0, 0);
        isSurest(x, 60, 0, 1, 2);
        isSurest(x, 61, 0, 1, 2);
        isSurest(x, 119, 0, 1, 2);
        isSurest(x, 120, 0, 2, 4);
        // MIDDLE of 1, 11 and 21 times is 1, 11 and 21, of 2 times 120: from 81 to 119 none is there
        ThreeMeasures y = one("wear 59 n=1", 1, 0, 60);
        isSurest(y, 59, 0, 0, 0);
        isSurest(y, 60, 0, 1, 2);
        isSurest(y, 61, 0, 11, 22);
        isSurest(y, 70, 0, 11, 22);
        isSurest(y, 71, 0, 21, 42);
        isSurest(y, 80, 0, 21, 42);
        isSurest(y, 81, NEVER, NEVER, NEVER);
        isSurest(y, 119, NEVER, NEVER, NEVER);
        isSurest(y, 120, 0, 2, 4);
    }

    /** "n (0 .. 30)". */
    private static void surestTimes() {
        ThreeMeasures x = one("", 0, 0, 2);
        isSurest(x, 60, 0, 1, 2);
        isSurest(x, 118, 0, 30, 60);
        isSurest(x, 119, 0, 30, 60);
        isSurest(x, 120, NEVER, NEVER, NEVER);
        isSurest(x, 117, 0, 29, 58);
        ThreeMeasures y = one("", 6, 0, 2);
        y.row(0, 0, 9);
        isSurest(y, 9, 0, 0, 0);
        isSurest(y, 8, 0, 1, 2);
        ThreeMeasures none = new ThreeMeasures();
        none.wall();
        isSurest(none, 1, NEVER, NEVER, NEVER);
    }

    /** "MOST less LEAST is least (of several the first STICK, then the least n)". */
    private static void surestOfSeveral() {
        ThreeMeasures x = one("", 0, 0, 60);
        x.stick(0, 0, 50);
        x.stick(0, 0, 60);
        isSurest(x, 120, 0, 2, 4);
        isSurest(x, 100, 0, 1, 2);
        isSurest(x, 119, 0, 1, 2);
        isSurest(x, 150, 0, 2, 4);
        isSurest(x, 180, 0, 3, 6);
        // a later STICK that is less off
        ThreeMeasures y = one("off 1 s=0", 0, 0, 60);
        y.stick(0, 0, 60);
        isSurest(y, 120, 1, 2, 4);
        // of two n the least: once is off by 10, twice by 5 each time
        ThreeMeasures z = one("off 9 n<2;off 4 n=2;off 50 n>2", 0, 0, 50);
        isSurest(z, 109, 0, 1, 20);
        ThreeMeasures w = one("off 8 n<2;off 4 n=2;off 50 n>2", 0, 0, 50);
        isSurest(w, 109, 0, 1, 18);
        ThreeMeasures v = one("off 10 n<2;off 4 n=2;off 50 n>2", 0, 0, 50);
        isSurest(v, 109, 0, 2, 20);
        // LEAST is 0 at least: 60 and 99 off is 159 alone, and not 198
        ThreeMeasures u = one("off 98 n=1", 0, 0, 60);
        isSurest(u, 119, 0, 1, 159);
        ThreeMeasures t = one("off 98 s=0&n=1;off 79 s=1&n=1", 0, 0, 60);
        t.stick(0, 0, 60);
        isSurest(t, 119, 1, 1, 140);
    }

    private static void isTwice(ThreeMeasures x, int length, int... wanted) {
        for (int what = 0; what < 6; what++) {
            int want = wanted.length == 0 ? NEVER : wanted[what];
            due.is("14: twice(0, " + length + ", " + what + ")", x.twice(0, length, what), want);
        }
    }

    private static void twiceLengths() {
        ThreeMeasures x = one("", 0, 0, 60);
        due.is("14: 0", x.twice(0, 0, 0), BAD);
        isTwice(x, 1);
        isTwice(x, 60, 1, 0, 0, 0, 1, 0);
        isTwice(x, 999);
        due.is("14: 1000", x.twice(0, 1000, 0), BAD);
        x.stick(0, 0, 51);
        isTwice(x, 999, 18, 0, 9, 1, 9, 0);
        isTwice(x, 9, 2, 0, 1, 1, 1, 1);
        due.is("14: no what ahead of how much", x.twice(0, 60, -1), NONE);
        due.is("14: no what behind whether taken away", x.twice(0, 60, 6), NONE);
        ThreeMeasures y = new ThreeMeasures();
        due.is("14: without a WALL", y.twice(0, 1, 0), NONE);
        y.wall();
        isTwice(y, 1);
        due.is("14: BAD without a STICK", y.twice(0, 0, 0), BAD);
    }

    /** "a, b 0 .. 9". */
    private static void twiceUpToNine() {
        ThreeMeasures x = one("", 0, 0, 10);
        isTwice(x, 90, 9, 0, 0, 0, 9, 0);
        isTwice(x, 100, 10, 0, 1, 0, 9, 0);
        isTwice(x, 180, 18, 0, 9, 0, 9, 0);
        isTwice(x, 190);
        ThreeMeasures y = one("", 0, 0, 60);
        y.stick(0, 0, 2);
        isTwice(y, 18, 9, 0, 0, 1, 9, 0);
        isTwice(y, 20, 10, 1, 1, 1, 9, 0);
        isTwice(y, 42, 10, 0, 1, 1, 9, 1);
        isTwice(y, 40);
        isTwice(y, 78, 10, 0, 1, 1, 9, 0);
        isTwice(y, 80);
        isTwice(y, 540, 9, 0, 0, 0, 9, 0);
        isTwice(y, 522, 18, 0, 9, 1, 9, 1);
        isTwice(y, 558, 18, 0, 9, 1, 9, 0);
    }

    /** "of several the first by the first STICK, a, the second, b, on top first". */
    private static void twiceOfSeveral() {
        // by the first STICK: 7 and 5 are 12 by either one first
        ThreeMeasures t = one("", 0, 0, 7);
        t.stick(0, 0, 5);
        isTwice(t, 12, 2, 0, 1, 1, 1, 0);
        isTwice(t, 2, 2, 0, 1, 1, 1, 1);
        ThreeMeasures x = one("off 1 s=0", 0, 0, 20);
        x.stick(0, 0, 10);
        // by a: none and 3 of the second, or 1 and 1, are both off by 3
        isTwice(x, 30, 3, 0, 0, 1, 3, 0);
        // by the second STICK: 1 of the first, or 2 of the second, are both off by 2
        isTwice(x, 20, 2, 0, 0, 0, 1, 0);
        ThreeMeasures y = one("off 5 s=0", 0, 0, 7);
        y.stick(0, 0, 10);
        y.stick(0, 0, 10);
        isTwice(y, 10, 1, 0, 0, 1, 1, 0);
        isTwice(y, 20, 2, 0, 0, 1, 2, 0);
        // by b: once (18 by its ROW) and twice (18) are both off by 4
        ThreeMeasures z = one("off 3 n=1;off 1 n=2", 6, 0, 9);
        z.row(0, 1, 9);
        isTwice(z, 18, 4, 0, 0, 0, 1, 0);
        // on top first: 10 and nothing are 10, also if nothing is taken away (none of the TOLD one is 9)
        ThreeMeasures w = one("", 6, 0, 10);
        w.row(0, 0, 9);
        w.stick(0, 0, 60);
        isTwice(w, 10, 1, 0, 1, 1, 0, 0);
        // 10 times nothing: a way that is off by nothing is the least
        ThreeMeasures v = one("", 6, 0, 10);
        v.row(0, 0, 5);
        v.row(0, 1, 5);
        isTwice(v, 10, 0, 0, 0, 0, 0, 0);
        isTwice(v, 20, 1, 0, 0, 0, 1, 0);
        // taken away where on top does not make it: twice (20) less none (5)
        isTwice(v, 15, 2, 0, 2, 0, 0, 1);
        ThreeMeasures u = one("", 0, 0, 30);
        u.stick(0, 0, 20);
        isTwice(u, 10, 2, 0, 1, 1, 1, 1);
        isTwice(u, 50, 2, 0, 1, 1, 1, 0);
    }

    /** "GAP becomes its half (cut), but n times SLACK at least, unless GAP is less already". */
    private static void againDown() {
        // LOW 100 and n 10 by LONG 10: SLACK 1, so that 10 is the floor
        isAgain(40, 40, 0);
        isAgain(40, 39, 1);
        isAgain(40, 20, 1);
        isAgain(40, 19, 2);
        isAgain(40, 10, 2);
        isAgain(40, 9, NEVER);
        isAgain(39, 19, 1);
        isAgain(39, 18, 2);
        isAgain(21, 10, 1);
        isAgain(20, 10, 1);
        isAgain(19, 10, 1);
        isAgain(11, 10, 1);
        isAgain(11, 9, NEVER);
        isAgain(10, 10, 0);
        isAgain(10, 9, NEVER);
        isAgain(9, 9, 0);
        isAgain(9, 8, NEVER);
        isAgain(1, 0, NEVER);
        isAgain(0, 0, 0);
    }

    private static void isAgain(int gap, int g, int want) {
        ThreeMeasures x = one("", 0, 0, 10);
        x.known(0, 100, 100 + gap);
        due.is("15: again(0, 0, " + g + ") by GAP " + gap, x.again(0, 0, g), want);
    }

    /** "n being how often (0 .. 30) .. so that its MIDDLE is nearest to LOW (of several the least)". */
    private static void againNearest() {
        int[] lows = {0, 5, 6, 15, 16, 295, 296, 300, 305, 500};
        int[] times = {0, 0, 1, 1, 2, 29, 30, 30, 30, 30};
        for (int i = 0; i < lows.length; i++) {
            ThreeMeasures x = one("", 0, 0, 10);
            x.known(0, lows[i], lows[i] + 40);
            String call = "15: LOW " + lows[i] + ": ";
            // GAP 40, 20, 10, 5, 2, 1, 0, but no less than how often
            int often = times[i] <= 2 ? 6 - times[i] : 1;
            due.is(call + "down to the floor", x.again(0, 0, times[i]), often);
            if (times[i] > 0) {
                due.is(call + "not below it", x.again(0, 0, times[i] - 1), NEVER);
            }
        }
    }

    /** "g (0 .. 999)"; "how often (0 .. 60)". */
    private static void againLimits() {
        ThreeMeasures x = one("", 0, 0, 10);
        due.is("15: g -1", x.again(0, 0, -1), BAD);
        due.is("15: g 0", x.again(0, 0, 0), 10);
        due.is("15: g 999", x.again(0, 0, 999), 0);
        due.is("15: g 1000", x.again(0, 0, 1000), BAD);
        due.is("15: g 998", x.again(0, 0, 998), 1);
        x.known(0, 900, 999);
        due.is("15: 30 for always", x.again(0, 0, 29), NEVER);
        due.is("15: 99, 49, 30", x.again(0, 0, 30), 2);
        x.known(0, 999, 999);
        due.is("15: no GAP", x.again(0, 0, 0), 0);
        // n times SLACK is more than 999
        ThreeMeasures y = one("off 99 s=0", 0, 0, 10);
        y.known(0, 500, 999);
        due.is("15: GAP is less already", y.again(0, 0, 498), NEVER);
        due.is("15: GAP is g", y.again(0, 0, 499), 0);
    }

    private static void isSquare(int[] a, int[] b, int[] c, int want) {
        ThreeMeasures x = new ThreeMeasures();
        int[][] walls = {a, b, c};
        for (int i = 0; i < 3; i++) {
            x.wall();
            x.known(i, walls[i][0], walls[i][1]);
        }
        String call = a[0] + " .. " + a[1] + ", " + b[0] + " .. " + b[1] + ", " + c[0] + " .. " + c[1];
        due.is("16: square of " + call, x.square(0, 1, 2), want);
        due.is("16: square of " + call + " by turns", x.square(1, 0, 2), want);
    }

    private static int[] from(int low, int high) {
        return new int[] {low, high};
    }

    /** "whether c can be the longest side .. 0 it can not be (for no whole lengths between), 1 it can". */
    private static void squareSides() {
        isSquare(from(3, 3), from(4, 4), from(5, 9), 1);
        isSquare(from(3, 3), from(4, 4), from(1, 5), 1);
        isSquare(from(3, 3), from(4, 4), from(1, 4), 0);
        isSquare(from(3, 3), from(4, 4), from(6, 999), 0);
        isSquare(from(3, 3), from(1, 4), from(5, 5), 1);
        isSquare(from(3, 3), from(1, 3), from(5, 5), 0);
        isSquare(from(3, 3), from(4, 9), from(5, 5), 1);
        isSquare(from(3, 3), from(5, 9), from(5, 5), 0);
        isSquare(from(1, 3), from(4, 4), from(5, 5), 1);
        isSquare(from(4, 9), from(4, 4), from(5, 5), 0);
        // the greatest that there is: 324, 945, 999
        isSquare(from(324, 324), from(945, 945), from(999, 999), 2);
        isSquare(from(324, 324), from(945, 945), from(998, 998), 0);
        isSquare(from(320, 330), from(940, 950), from(999, 999), 1);
        isSquare(from(325, 330), from(940, 950), from(999, 999), 0);
        isSquare(from(999, 999), from(999, 999), from(0, 999), 0);
        isSquare(from(1, 999), from(999, 999), from(1, 999), 0);
        isSquare(from(0, 999), from(999, 999), from(0, 999), 1);
        isSquare(from(999, 999), from(500, 999), from(999, 999), 0);
        isSquare(from(0, 999), from(0, 999), from(0, 999), 1);
        isSquare(from(0, 0), from(0, 0), from(1, 9), 0);
        isSquare(from(0, 0), from(0, 0), from(1, 1), 0);
    }

    /** "2 it must be (all three have one length alone, and it is so)"; "each by itself, also if two are one". */
    private static void squareMustBe() {
        isSquare(from(3, 3), from(4, 4), from(5, 5), 2);
        isSquare(from(2, 3), from(4, 4), from(5, 5), 1);
        isSquare(from(3, 3), from(4, 5), from(5, 5), 1);
        isSquare(from(3, 3), from(4, 4), from(5, 6), 1);
        isSquare(from(3, 3), from(4, 4), from(6, 6), 0);
        ThreeMeasures x = new ThreeMeasures();
        x.wall();
        x.known(0, 3, 5);
        due.is("16: three that are one: 3, 4, 5", x.square(0, 0, 0), 1);
        x.known(0, 3, 4);
        due.is("16: 5 is not between", x.square(0, 0, 0), 0);
        x.wall();
        x.known(1, 5, 5);
        due.is("16: 3, 4, 5 by two that are one", x.square(0, 0, 1), 1);
        due.is("16: no such a", x.square(2, 0, 1), NONE);
        due.is("16: no such b", x.square(0, 2, 1), NONE);
        due.is("16: no such c", x.square(0, 0, 2), NONE);
        due.is("16: a -1", x.square(-1, 0, 1), NONE);
        due.is("16: b -1", x.square(0, -1, 1), NONE);
        due.is("16: c -1", x.square(0, 0, -1), NONE);
    }

    /** "each a way (0 .. 3) and a length (1 .. 99); 8 at most". */
    private static void stepsOfRound() {
        ThreeMeasures x = new ThreeMeasures();
        due.is("17: none yet", x.step(-1, 1), 0);
        due.is("17: way -2", x.step(-2, 1), NONE);
        due.is("17: way 4", x.step(4, 1), NONE);
        due.is("17: length 0", x.step(0, 0), BAD);
        due.is("17: length 100", x.step(3, 100), BAD);
        due.is("17: way 0, length 1", x.step(0, 1), 1);
        due.is("17: way 3, length 99", x.step(3, 99), 2);
        for (int i = 3; i <= 8; i++) {
            due.is("19: not yet", x.closed(i - 1), NO_LENGTH);
            due.is("17: one more", x.step(1, i), i);
        }
        due.is("17: the ninth", x.step(1, 9), FULL);
        due.is("36: eight", x.count(3), 8);
        due.is("18: the ninth is not there", x.off(1), 33 - 99);
        due.is("19: the eighth", x.closed(7) != NO_LENGTH ? 1 : 0, 1);
        due.is("19: no ninth", x.closed(8), NO_LENGTH);
        due.is("19: none ahead of the first", x.closed(-1), NO_LENGTH);
        due.is("17: none then, when FULL", x.step(-1, -1), 0);
        due.is("36: none", x.count(3), 0);
        due.is("19: none", x.closed(0), NO_LENGTH);
    }

    /** "OFF of ROUND: how far it ends from where it began, east and north (each may be below 0)". */
    private static void offBelowZero() {
        for (int way = 0; way < 4; way++) {
            ThreeMeasures x = new ThreeMeasures();
            for (int i = 0; i < 8; i++) {
                x.step(way, 99);
            }
            int far = way < 2 ? 792 : -792;
            due.is("18: east by way " + way, x.off(0), way % 2 == 0 ? far : 0);
            due.is("18: north by way " + way, x.off(1), way % 2 == 1 ? far : 0);
            due.is("18: no what ahead of east", x.off(-1), NO_LENGTH);
            due.is("18: no what behind north", x.off(2), NO_LENGTH);
            for (int k = 0; k < 8; k++) {
                due.is("19: all closes at once", x.closed(k), 0);
            }
        }
    }

    private static void isClosed(int[] ways, int[] lengths, int... wanted) {
        ThreeMeasures x = new ThreeMeasures();
        for (int i = 0; i < ways.length; i++) {
            due.is("17: a step", x.step(ways[i], lengths[i]), i + 1);
        }
        for (int i = 0; i < ways.length; i++) {
            due.is("19: closed(" + i + ") of " + ways.length, x.closed(i), wanted[i]);
        }
    }

    private static int[] all(int... numbers) {
        return numbers;
    }

    /** "cut toward 0 .. the last such one gets what is left"; "may be below 0". */
    private static void closedShares() {
        for (int turn = 0; turn < 2; turn++) {
            int ahead = turn, back = turn + 2;
            // off 1 by 3: 0.66 is cut to 0, and 1 is left; off -1 likewise
            isClosed(all(ahead, back), all(2, 1), 2, 2);
            isClosed(all(back, ahead), all(2, 1), 2, 2);
            isClosed(all(ahead, ahead, back), all(5, 6, 10), 5, 6, 11);
            isClosed(all(back, back, ahead), all(5, 6, 10), 5, 6, 11);
            // off 99 by 101: 97.04 of 99, 0.98 of 1, 2 left: -1, below 0
            isClosed(all(ahead, ahead, back), all(99, 1, 1), 2, 1, 3);
            isClosed(all(ahead, back, ahead), all(99, 1, 1), 2, 1, -1);
            isClosed(all(back, ahead, back), all(99, 1, 1), 2, 1, -1);
            // it closes already: no share
            isClosed(all(ahead, back), all(50, 50), 50, 50);
            // the other way's steps are not such ones, though one of them is the last
            isClosed(all(ahead, back, 1 - turn), all(2, 1, 7), 2, 2, 0);
            isClosed(all(1 - turn, ahead, 3 - turn, back), all(7, 2, 7, 1), 7, 2, 7, 2);
        }
    }

    private static void isCut(String room, int low, int high, int length, long above, long below) {
        ThreeMeasures x = room.isEmpty() ? new ThreeMeasures() : due.in(room);
        x.wall();
        x.known(0, low, high);
        String call = " of " + low + " .. " + high + " by " + room;
        due.is("20: cut" + call, x.cut(0), length);
        due.is("21: above" + call, x.cost(0, 0), above);
        due.is("21: below" + call, x.cost(0, 1), below);
    }

    /** "of LOW .. HIGH, no more than 60 above LOW". */
    private static void cutsUpTo60AboveLow() {
        isCut("step 0", 100, 159, 159, 0, 1);
        isCut("step 0", 100, 160, 160, 0, 1);
        // 40 for one of 62 lengths
        isCut("step 0", 100, 161, 160, 20, 31);
        isCut("step 0", 0, 999, 60, 939, 25);
        isCut("step 0", 939, 999, 999, 0, 1);
        isCut("step 0", 938, 999, 998, 20, 31);
        isCut("step 0", 999, 999, 999, 0, 1);
        isCut("board 99", 0, 0, 0, 0, 1);
        isCut("board 0", 0, 999, 0, 0, 1);
    }

    /** "too short: BOARD; too long: STEP for each by which it is; just so: nothing"; "of several the least length". */
    private static void cutsOfSeveral() {
        // of two lengths: short for one (BOARD), or 1 too long for one (STEP)
        isCut("board 3;step 4", 10, 11, 10, 3, 2);
        isCut("board 4;step 4", 10, 11, 10, 2, 1);
        isCut("board 5;step 4", 10, 11, 11, 2, 1);
        isCut("board 0;step 0", 10, 11, 10, 0, 1);
        // of three: 2 BOARD; BOARD and STEP; 1 and 2 STEP
        isCut("board 4;step 2", 10, 12, 11, 2, 1);
        isCut("board 5;step 2", 10, 12, 12, 2, 1);
        isCut("board 2;step 2", 10, 12, 10, 4, 3);
        isCut("board 99;step 99", 10, 11, 10, 99, 2);
        // a tie that lies apart from LOW: without a ROOM BOARD 40 is STEP 1 for the 40th too
        isCut("", 0, 999, 39, 1959, 50);
        isCut("", 0, 39, 39, 39, 2);
        isCut("", 0, 40, 39, 20, 1);
        ThreeMeasures x = new ThreeMeasures();
        due.is("20: no WALL", x.cut(0), NONE);
        due.is("21: no WALL", x.cost(0, 0), NO);
        x.wall();
        due.is("20: no such WALL", x.cut(1), NONE);
        due.is("20: no such WALL", x.cut(-1), NONE);
        due.is("21: no such WALL", x.cost(1, 0), NO);
        due.is("21: no part ahead of above", x.cost(0, -1), NO);
        due.is("21: no part behind below", x.cost(0, 2), NO);
    }

    /** "sizes a, b (1 .. 40) and a wanted amount (0 .. 40)". */
    private static void cupSizes() {
        ThreeMeasures x = new ThreeMeasures();
        due.is("22: the least", x.cups(1, 1, 0), 0);
        due.is("22: a 0", x.cups(0, 1, 0), BAD);
        due.is("22: b 0", x.cups(1, 0, 0), BAD);
        due.is("22: wanted -1", x.cups(1, 1, -1), BAD);
        due.is("22: the greatest", x.cups(40, 40, 40), 1);
        due.is("22: a 41", x.cups(41, 40, 40), BAD);
        due.is("22: b 41", x.cups(40, 41, 40), BAD);
        due.is("22: wanted 41", x.cups(40, 40, 41), BAD);
        due.is("22: more than both hold", x.cups(39, 39, 40), NEVER);
        due.is("22: as much as one holds", x.cups(39, 40, 40), 1);
        due.is("22: as much as the other holds", x.cups(40, 39, 40), 1);
        due.is("22: both together are not one of both", x.cups(2, 3, 5), NEVER);
        // nothing is left of the call ahead
        due.is("22: 40 of 40", x.cups(40, 1, 40), 1);
        due.is("22: 40 of 2 and 3", x.cups(2, 3, 40), NEVER);
        due.is("22: 1 of 2 and 3", x.cups(2, 3, 1), 2);
        due.is("22: 1 of 3 and 2", x.cups(3, 2, 1), 2);
    }

    /** "the fewest fillings, emptyings, pourings over .. by which one of both has just that (-5: never)". */
    private static void cupMoves() {
        ThreeMeasures x = new ThreeMeasures();
        due.is("22: both are empty at first", x.cups(7, 5, 0), 0);
        due.is("22: fill a", x.cups(7, 5, 7), 1);
        due.is("22: fill b", x.cups(7, 5, 5), 1);
        due.is("22: fill a, over into b", x.cups(7, 5, 2), 2);
        due.is("22: fill b, over into a", x.cups(5, 7, 2), 2);
        // fill 5, over, fill 5, over: 3 stay
        due.is("22: 3 of 7 and 5", x.cups(7, 5, 3), 4);
        due.is("22: 3 of 5 and 7", x.cups(5, 7, 3), 4);
        // fill 7, over (2), empty 5, over, fill 7, over: 4
        due.is("22: 4 of 7 and 5, by an emptying", x.cups(7, 5, 4), 6);
        due.is("22: 4 of 5 and 7, by an emptying", x.cups(5, 7, 4), 6);
        due.is("22: by 3 alone", x.cups(3, 6, 4), NEVER);
        due.is("22: by 3 alone", x.cups(3, 6, 6), 1);
        due.is("22: 1 of 2 and 1", x.cups(2, 1, 1), 1);
        due.is("22: 2 of 1 and 3", x.cups(1, 3, 2), 2);
        due.is("22: the longest", x.cups(40, 39, 20), 76);
        due.is("22: the longest, by turns", x.cups(39, 40, 20), 76);
    }

    /** "rising (1 .. 999; 6 at most)". */
    private static void marksRising() {
        ThreeMeasures x = new ThreeMeasures();
        due.is("23: 0", x.mark(0), BAD);
        due.is("23: -2", x.mark(-2), BAD);
        due.is("23: 1000", x.mark(1000), BAD);
        due.is("23: 1", x.mark(1), 1);
        due.is("23: 1 again", x.mark(1), BAD);
        due.is("23: 2", x.mark(2), 2);
        due.is("23: 998", x.mark(998), 3);
        due.is("23: 997", x.mark(997), BAD);
        due.is("23: 999", x.mark(999), 4);
        due.is("23: 999 again", x.mark(999), BAD);
        due.is("23: none then", x.mark(-1), 0);
        for (int i = 1; i <= 6; i++) {
            due.is("36: MARKS", x.count(4), i - 1);
            due.is("23: one more", x.mark(10 * i), i);
        }
        due.is("23: the seventh", x.mark(70), FULL);
        due.is("23: the seventh, not above the one ahead", x.mark(60), BAD);
        due.is("36: six MARKS", x.count(4), 6);
        due.is("23: none then, when FULL", x.mark(-1), 0);
        due.is("23: anew from 1 on", x.mark(1), 1);
    }

    private static void marks(ThreeMeasures x, int... places) {
        x.mark(-1);
        for (int i = 0; i < places.length; i++) {
            due.is("23: mark(" + places[i] + ")", x.mark(places[i]), i + 1);
        }
    }

    /** "by which for all MARKS (the k-th: set on k and 1 times) it lies between LEAST and MOST". */
    private static void whoseFromLeastToMost() {
        ThreeMeasures x = new ThreeMeasures();
        due.is("24: no WALL", x.whose(0), NONE);
        due.is("7: a WALL", x.wall(), 0);
        due.is("24: no STICK", x.whose(0), 0);
        for (int i = 0; i < 6; i++) {
            x.stick(0, 0, 10);
        }
        due.is("24: all six, as bits", x.whose(0), 63);
        // 9 .. 11, 18 .. 22, 27 .. 33, 36 .. 44, 45 .. 55, 54 .. 66
        marks(x, 9, 18, 27, 36, 45, 54);
        due.is("24: LEAST of each", x.whose(0), 63);
        marks(x, 11, 22, 33, 44, 55, 66);
        due.is("24: MOST of each", x.whose(0), 63);
        for (int k = 0; k < 6; k++) {
            for (int side = 0; side < 2; side++) {
                int[] places = {10, 20, 30, 40, 50, 60};
                places[k] = side == 0 ? 9 * (k + 1) - 1 : 11 * (k + 1) + 1;
                marks(x, places);
                due.is("24: MARK " + k + " beside LEAST or MOST", x.whose(0), 0);
            }
        }
        due.is("24: no such WALL", x.whose(1), NONE);
        due.is("24: no such WALL", x.whose(-1), NONE);
        ThreeMeasures y = new ThreeMeasures();
        y.wall();
        for (int i = 0; i < 6; i++) {
            y.stick(0, 0, 10 + 2 * i);
        }
        for (int i = 0; i < 6; i++) {
            marks(y, 10 + 2 * i);
            due.is("24: that one alone", y.whose(0), 1 << i);
            marks(y, 11 + 2 * i);
            due.is("24: that one and the next", y.whose(0), i == 5 ? 1 << i : 3 << i);
        }
    }

    /** "the first MARK .. if there is none with all (-5: there is one, or no such MARK)". */
    private static void wrongMark() {
        ThreeMeasures x = one("", 0, 0, 10);
        due.is("25: no MARK", x.wrong(0), NEVER);
        for (int k = 0; k < 6; k++) {
            int[] places = {10, 20, 30, 40, 50, 60};
            places[k] = 11 * (k + 1);
            marks(x, places);
            due.is("25: MARK " + k + " at MOST", x.wrong(0), NEVER);
            places[k]++;
            marks(x, places);
            due.is("25: MARK " + k + " above MOST", x.wrong(0), k);
            places[k] = 9 * (k + 1) - 1;
            marks(x, places);
            due.is("25: MARK " + k + " below LEAST", x.wrong(0), k);
        }
        marks(x, 12);
        due.is("25: the only one", x.wrong(0), 0);
        marks(x, 11);
        due.is("25: there is one", x.wrong(0), NEVER);
        marks(x, 12, 23);
        due.is("25: two are", x.wrong(0), NEVER);
        marks(x, 12, 22);
        due.is("25: the first alone", x.wrong(0), 0);
        marks(x, 11, 23);
        due.is("25: the second alone", x.wrong(0), 1);
        // without the first it would be the second STICK's, without the second the first one's
        x.stick(0, 0, 20);
        marks(x, 10, 40);
        due.is("25: of two the first", x.wrong(0), 0);
        ThreeMeasures y = new ThreeMeasures();
        due.is("25: no WALL", y.wrong(0), NONE);
        y.wall();
        y.mark(10);
        due.is("25: no STICK", y.wrong(0), NEVER);
        due.is("25: no such WALL", y.wrong(1), NONE);
        due.is("25: no such WALL", y.wrong(-1), NONE);
    }

    private static void isOdds(ThreeMeasures x, int length, long above, long below) {
        due.is("26: odds(0, " + length + ", 0)", x.odds(0, length, 0), above);
        due.is("26: odds(0, " + length + ", 1)", x.odds(0, length, 1), below);
    }

    /** "how likely it is that or less .. a fraction in lowest terms"; "NO: wall, length (0 .. 999), part". */
    private static void oddsAroundAWall() {
        ThreeMeasures x = new ThreeMeasures();
        due.is("26: no WALL", x.odds(0, 0, 0), NO);
        x.wall();
        isOdds(x, 0, 1, 1000);
        isOdds(x, 998, 999, 1000);
        isOdds(x, 999, 1, 1);
        x.known(0, 100, 105);
        isOdds(x, 99, 0, 1);
        isOdds(x, 100, 1, 6);
        isOdds(x, 101, 1, 3);
        isOdds(x, 102, 1, 2);
        isOdds(x, 103, 2, 3);
        isOdds(x, 104, 5, 6);
        isOdds(x, 105, 1, 1);
        isOdds(x, 106, 1, 1);
        isOdds(x, 0, 0, 1);
        x.known(0, 7, 7);
        isOdds(x, 6, 0, 1);
        isOdds(x, 7, 1, 1);
        due.is("26: length -1", x.odds(0, -1, 0), NO);
        due.is("26: length 1000", x.odds(0, 1000, 0), NO);
        due.is("26: part -1", x.odds(0, 7, -1), NO);
        due.is("26: part 2", x.odds(0, 7, 2), NO);
        due.is("26: WALL -1", x.odds(-1, 7, 0), NO);
        due.is("26: WALL 1", x.odds(1, 7, 0), NO);
    }

    private static void isMean(ThreeMeasures x, long above, long below) {
        due.is("27: above", x.mean(0), above);
        due.is("27: below", x.mean(1), below);
    }

    /** "MEAN of all WALLS: .. in lowest terms (NO: none). SPREAD: .. (of several the first; -5: none)". */
    private static void meanAndSpread() {
        ThreeMeasures x = new ThreeMeasures();
        isMean(x, NO, NO);
        due.is("28: none", x.spread(), NEVER);
        for (int i = 0; i < 6; i++) {
            x.wall();
            isMean(x, 999, 2);
            due.is("28: of several the first", x.spread(), 0);
        }
        for (int i = 0; i < 6; i++) {
            x.known(i, 0, 0);
            due.is("28: the first that is left", x.spread(), i == 5 ? 0 : i + 1);
        }
        isMean(x, 0, 1);
        x.known(5, 0, 1);
        isMean(x, 1, 12);
        due.is("28: the last", x.spread(), 5);
        x.known(4, 999, 999);
        isMean(x, 1999, 12);
        x.known(5, 3, 3);
        isMean(x, 167, 1);
        for (int i = 0; i < 6; i++) {
            x.known(i, 999, 999);
        }
        isMean(x, 999, 1);
        due.is("28: all without a GAP", x.spread(), 0);
        x.known(2, 10, 12);
        x.known(4, 0, 1);
        due.is("28: the greatest", x.spread(), 2);
        x.known(4, 0, 2);
        due.is("28: of two the first", x.spread(), 2);
        x.known(4, 0, 3);
        due.is("28: the greatest", x.spread(), 4);
        due.is("27: part -1", x.mean(-1), NO);
        due.is("27: part 2", x.mean(2), NO);
    }

    /** "BOOK: 8 at most. LOOKED at: the first that does not lie between its LOW and HIGH (-5: none)". */
    private static void bookAndLooked() {
        ThreeMeasures x = new ThreeMeasures();
        due.is("29: none yet", x.book(-1, 0), 0);
        due.is("29: no WALL", x.book(0, 0), NONE);
        due.is("30: none", x.looked(), NEVER);
        x.wall();
        due.is("29: WALL -2", x.book(-2, 0), NONE);
        due.is("29: WALL 1", x.book(1, 0), NONE);
        due.is("29: length -1", x.book(0, -1), BAD);
        due.is("29: length 1000", x.book(0, 1000), BAD);
        due.is("29: length 0", x.book(0, 0), 1);
        due.is("29: length 999", x.book(0, 999), 2);
        for (int i = 3; i <= 8; i++) {
            due.is("36: rows", x.count(5), i - 1);
            due.is("29: one more", x.book(0, 500), i);
        }
        due.is("29: the ninth", x.book(0, 500), FULL);
        due.is("36: eight rows", x.count(5), 8);
        due.is("30: none", x.looked(), NEVER);
        due.is("29: none then, when FULL", x.book(-1, 5000), 0);
        x.known(0, 100, 200);
        for (int i = 0; i < 7; i++) {
            x.book(0, i % 2 == 0 ? 100 : 200);
        }
        due.is("30: LOW and HIGH lie between", x.looked(), NEVER);
        x.book(0, 201);
        due.is("30: the eighth", x.looked(), 7);
        x.known(0, 100, 201);
        due.is("30: none", x.looked(), NEVER);
        x.known(0, 101, 201);
        due.is("30: the first", x.looked(), 0);
        x.known(0, 100, 199);
        due.is("30: of several the first", x.looked(), 1);
    }

    private static void isAct(ThreeMeasures x, int stick, int act, int with, int want) {
        due.is("31: act(" + stick + ", " + act + ", " + with + ")", x.act(stick, act, with), want);
    }

    /** "ACTS of a STICK with x (ints, wrapping)": each body's sum, product and sign beyond the ends of int. */
    private static void actsWrap() {
        int most = Integer.MAX_VALUE, least = Integer.MIN_VALUE;
        for (int kind = 0; kind < 7; kind++) {
            ThreeMeasures x = new ThreeMeasures();
            for (int i = 0; i < 6; i++) {
                x.stick(kind, i + 4, 10);
            }
            int[] withs = {most, most - 1, most - 5, least, least + 1, least + 5, most / 3, least / 3, most / 2,
                least / 2, 0};
            for (int i = 0; i < 6; i++) {
                for (int with : withs) {
                    isAct(x, i, 0, with, (int) sets(kind, i, with));
                    isAct(x, i, 1, with, (int) reads(kind, i, with));
                    isAct(x, i, 2, with, (int) tells(kind, i, with));
                }
            }
        }
        ThreeMeasures x = new ThreeMeasures();
        x.stick(0, 1, 10);
        x.stick(2, 0, 10);
        isAct(x, 0, 0, most, most);
        isAct(x, 1, 0, most, least);
        isAct(x, 0, 1, least, most);
        isAct(x, 1, 1, most, least);
        isAct(x, 0, 2, 1 << 30, most - 1);
        isAct(x, 0, 2, (1 << 30) + 1, least);
    }

    // over long, of which the lowest 32 bits are what ints that wrap come to
    private static long sets(int kind, int i, long x) {
        return kind == 1 || kind == 4 ? x * 3 + i : kind == 5 ? x + i ^ i : x + i;
    }

    private static long reads(int kind, int i, long x) {
        long v = i + 4;
        long plain = sets(kind, i, x) - v;
        return kind == 2 || kind == 5 ? -plain : kind == 6 ? plain + v : plain;
    }

    private static long tells(int kind, int i, long x) {
        if (kind == 4) {
            return reads(4, i, x - 1) * 2 + sets(4, i, 2);
        }
        long plain = reads(kind, i, x) * 2;
        return kind == 3 || kind == 6 ? plain ^ 7 : plain;
    }

    /** "THE TRACE: .. the first 20 are kept": no act runs more than 7 bodies, so that all of each are kept. */
    private static void traceOfTwenty() {
        int[] bodies = {3, 4, 4, 4, 7, 5, 5};
        for (int kind = 0; kind < 7; kind++) {
            ThreeMeasures x = new ThreeMeasures();
            x.stick(kind, 1, 10);
            due.is("32: none ahead of an act", x.trace(0), NONE);
            x.act(0, 2, 5);
            due.is("36: bodies of tells of KIND " + kind, x.count(7), bodies[kind]);
            due.is("32: the first", x.trace(0), new int[] {3, 3, 3, 31, 41, 3, 31}[kind]);
            due.is("32: the last", x.trace(bodies[kind] - 1), 1);
            for (int i = bodies[kind]; i < 22; i++) {
                due.is("32: none behind the last", x.trace(i), NONE);
            }
            due.is("32: none ahead of the first", x.trace(-1), NONE);
            x.act(0, 0, 5);
            due.is("32: the latest act() alone", x.trace(x.count(7)), NONE);
            x.act(0, 3, 5);
            due.is("32: no TRACE of no act", x.trace(0), NONE);
            due.is("36: no bodies of no act", x.count(7), 0);
        }
    }

    /** "A STICK taken for a KIND k (0 .. 6), or one under that". */
    private static void asKinds() {
        ThreeMeasures x = new ThreeMeasures();
        for (int kind = 1; kind < 7; kind++) {
            x.stick(kind, kind + 3, 10);
        }
        for (int i = 0; i < 6; i++) {
            due.is("33: k -1", x.as(i, -1), NONE);
            due.is("33: each is a STICK", x.as(i, 0), i + 4);
            due.is("33: its own KIND", x.as(i, i + 1), i + 4);
            due.is("33: k 7", x.as(i, 7), NONE);
        }
        due.is("33: WORN is not SLIPPING", x.as(0, 4), OTHER);
        due.is("33: SLIPPING is WORN", x.as(3, 1), 7);
        due.is("33: SAGGING is a TAPE", x.as(4, 2), 8);
        due.is("33: TOLD is a PACE", x.as(5, 3), 9);
        due.is("33: TOLD is no TAPE", x.as(5, 2), OTHER);
        due.is("33: TOLD is not SAGGING", x.as(5, 5), OTHER);
        due.is("33: STICK -1", x.as(-1, 0), NONE);
        due.is("33: STICK 6", x.as(6, 0), NONE);
    }

    /** "All is as THE IMAGE", from nothing to all that there can be and back. */
    private static void images() {
        ThreeMeasures x = new ThreeMeasures();
        String nothing = Seen.all(new ThreeMeasures());
        due.is("35: there is none", x.undo(), -3);
        due.is("34: of nothing", x.image(), 0);
        fill(x);
        due.is("36: what count(7) tells", x.count(7), 2);
        due.is("35: nothing", x.undo(), 0);
        due.is("36: THE TRACE is not in THE IMAGE", x.count(7), 2);
        x.act(-1, 0, 0);
        ThreeMeasures y = new ThreeMeasures();
        y.image();
        due.text("35: all is as it was", Seen.all(x), Seen.all(y));
        due.is("35: nothing is something", nothing.isEmpty() ? 0 : 1, 1);
        ThreeMeasures z = new ThreeMeasures();
        ThreeMeasures w = new ThreeMeasures();
        fill(z);
        fill(w);
        due.is("34: of all", z.image(), 6);
        w.image();
        z.step(-1, 0);
        z.mark(-1);
        z.book(-1, 0);
        for (int i = 0; i < 6; i++) {
            z.known(i, 1, 1);
        }
        due.is("35: all", z.undo(), 6);
        due.text("35: all is as it was", Seen.all(z), Seen.all(w));
    }

    /** As much of each as there can be, but for one sign of THE TAPE and one ROOM. */
    private static void fill(ThreeMeasures x) {
        for (int i = 0; i < 4; i++) {
            due.is("3: a ROOM", Due.read(x, i < 3 ? "step 1" : "off 2 k=6;board 7"), i);
        }
        for (int i = 0; i < 6; i++) {
            x.stick(6 - i, i, 10 + i);
            x.wall();
            x.known(i, 10 * i, 20 * i);
            x.mark(10 + i);
        }
        x.row(0, 1, 5);
        for (int i = 0; i < 8; i++) {
            x.step(i % 3, 10 + i);
            x.book(i % 6, 10 * i);
        }
        x.measure(3, 0, 3, 5, true);
        for (int i = 0; i < 99; i++) {
            x.feed("board 8;step 9".charAt(Math.min(i, 13)));
        }
        x.act(1, 0, 1);
    }
}
