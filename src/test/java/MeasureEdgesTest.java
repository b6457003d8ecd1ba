/** "Terms", part 1, what it says of STICKS, WALLS, SET ON and MEASURINGS: each boundary from both sides. */
public final class MeasureEdgesTest {
    private static final int NONE = -1, BAD = -2, STATE = -3, FULL = -4;
    private static final Due due = new Due();

    public static void main(String[] args) {
        sixSticks();
        kindsAndNumbers();
        rowsOfFour();
        sixWalls();
        lowAndHigh();
        lettersOfTests();
        longByTenAndTimesModuloTen();
        numbersOfTests();
        offTogether();
        setOnTimes();
        leastIsNotBelowZero();
        wornAndSlipping();
        tape();
        pace();
        sagging();
        told();
        restAndTimes();
        moreAndLacking();
        fitsOrIsWrong();
        measuredBeyondLowAndHigh();
        goes();
        goesAbove9900();
        due.end();
    }

    /** "STICKS are numbered from 0 on, 6 at most". */
    private static void sixSticks() {
        ThreeMeasures x = new ThreeMeasures();
        for (int i = 0; i < 6; i++) {
            due.is("5: not yet", x.of(i, 0), NONE);
            due.is("4: a STICK", x.stick(i, i, 2 + i), i);
            due.is("5: its KIND", x.of(i, 0), i);
            due.is("5: its LONG", x.of(i, 2), 2 + i);
            due.is("36: STICKS", x.count(0), i + 1);
        }
        due.is("4: the seventh", x.stick(0, 0, 2), FULL);
        due.is("36: six STICKS", x.count(0), 6);
        due.is("5: none ahead of the first", x.of(-1, 0), NONE);
        due.is("5: none behind the last", x.of(6, 0), NONE);
    }

    /** "each of a KIND: 0 .. 6; a number v (0 .. 9), a LONG (2 .. 60)". */
    private static void kindsAndNumbers() {
        int[][] taken = {{0, 0, 2}, {6, 0, 2}, {0, 9, 2}, {0, 0, 60}, {6, 9, 60}};
        int[][] refused = {{-1, 0, 2}, {7, 0, 2}, {0, -1, 2}, {0, 10, 2}, {0, 0, 1}, {0, 0, 61}};
        int[] answers = {NONE, NONE, BAD, BAD, BAD, BAD};
        ThreeMeasures x = new ThreeMeasures();
        for (int i = 0; i < taken.length; i++) {
            due.is("4: taken", x.stick(taken[i][0], taken[i][1], taken[i][2]), i);
            for (int what = 0; what < 3; what++) {
                due.is("5: of(" + i + ", " + what + ")", x.of(i, what), taken[i][what]);
            }
        }
        for (int i = 0; i < refused.length; i++) {
            due.is("4: refused, " + i, x.stick(refused[i][0], refused[i][1], refused[i][2]), answers[i]);
        }
        due.is("5: no what ahead of KIND", x.of(0, -1), NONE);
        due.is("5: no what behind LONG", x.of(0, 3), NONE);
    }

    /** "TOLD ones a ROW of four numbers (0 .. 9; 0 at first)"; another KIND has none. */
    private static void rowsOfFour() {
        ThreeMeasures x = one("", 6, 0, 10);
        for (int k = 0; k < 4; k++) {
            due.is("12: no more at first", x.between(0, 0, k, 2), 10 * k);
            due.is("6: 0 at first", x.row(0, k, 9), 0);
            due.is("6: 9 is taken", x.row(0, k, 0), 9);
            due.is("6: 0 is taken", x.row(0, k, 1 + k), 0);
            due.is("6: -1 is not", x.row(0, k, -1), BAD);
            due.is("6: 10 is not", x.row(0, k, 10), BAD);
            due.is("12: that much more", x.between(0, 0, k, 2), 11 * k + 1);
        }
        due.is("6: k -1", x.row(0, -1, 0), NONE);
        due.is("6: k 4", x.row(0, 4, 0), NONE);
        for (int kind = 0; kind < 6; kind++) {
            ThreeMeasures y = one("", kind, 0, 10);
            due.is("6: a STICK of KIND " + kind, y.row(0, 0, 0), STATE);
            due.is("6: a STICK of KIND " + kind, y.row(0, 3, 9), STATE);
        }
    }

    /** "WALLS are numbered from 0 on, 6 at most". */
    private static void sixWalls() {
        ThreeMeasures x = new ThreeMeasures();
        for (int i = 0; i < 6; i++) {
            due.is("8: not yet", x.at(i, 0), NONE);
            due.is("7: a WALL", x.wall(), i);
            due.is("8: LOW at first", x.at(i, 0), 0);
            due.is("8: HIGH at first", x.at(i, 1), 999);
            due.is("8: GAP at first", x.at(i, 2), 999);
            due.is("36: WALLS", x.count(1), i + 1);
        }
        due.is("7: the seventh", x.wall(), FULL);
        due.is("36: six WALLS", x.count(1), 6);
        due.is("8: none ahead of the first", x.at(-1, 0), NONE);
        due.is("8: none behind the last", x.at(6, 0), NONE);
        due.is("8: no what ahead of LOW", x.at(5, -1), NONE);
        due.is("8: no what behind GAP", x.at(5, 3), NONE);
    }

    /** "LOW, HIGH of a WALL become so (0 .. 999, LOW no more than HIGH)". */
    private static void lowAndHigh() {
        ThreeMeasures x = one("", 0, 0, 10);
        due.is("9: all", x.known(0, 0, 999), 999);
        due.is("9: the least", x.known(0, 0, 0), 999);
        due.is("9: LOW -1", x.known(0, -1, 0), BAD);
        due.is("9: both -1", x.known(0, -1, -1), BAD);
        due.is("9: the greatest", x.known(0, 999, 999), 0);
        due.is("9: HIGH 1000", x.known(0, 999, 1000), BAD);
        due.is("9: both 1000", x.known(0, 1000, 1000), BAD);
        due.is("9: LOW is HIGH", x.known(0, 500, 500), 0);
        due.is("9: LOW is one more", x.known(0, 501, 500), BAD);
        due.is("9: LOW is one less", x.known(0, 499, 500), 0);
        due.is("8: LOW", x.at(0, 0), 499);
        due.is("8: HIGH", x.at(0, 1), 500);
        due.is("8: GAP", x.at(0, 2), 1);
    }

    /** A new object with that ROOM (none, if it is empty), a STICK 0 and a WALL 0. */
    private static ThreeMeasures one(String room, int kind, int v, int length) {
        ThreeMeasures x = room.isEmpty() ? new ThreeMeasures() : due.in(room);
        due.is("4: a STICK", x.stick(kind, v, length), 0);
        due.is("7: a WALL", x.wall(), 0);
        return x;
    }

    /** SLACK of the last of six STICKS (KIND 3, v 9, LONG 60) at the last of six WALLS, n being 19, by off 20 E. */
    private static void isSlack(String test, int want) {
        ThreeMeasures x = due.in("off 20 " + test);
        for (int i = 0; i < 6; i++) {
            x.stick(3, 9, 60);
            x.wall();
        }
        due.is("12: SLACK by off 20 " + test, x.between(5, 5, 19, 3), want);
    }

    /** "a TEST: s or k or v or l or n or w, one of < = >", at the last number that each can be. */
    private static void lettersOfTests() {
        String letters = "skvlnw";
        int[] values = {5, 3, 9, 6, 9, 5};
        for (int i = 0; i < values.length; i++) {
            for (int number = values[i] - 1; number <= values[i] + 1; number++) {
                isSlack(letters.charAt(i) + "<" + number, values[i] < number ? 30 : 10);
                isSlack(letters.charAt(i) + "=" + number, values[i] == number ? 30 : 10);
                isSlack(letters.charAt(i) + ">" + number, values[i] > number ? 30 : 10);
            }
        }
        // and at the first one
        for (String letter : new String[] {"s", "k", "v", "l", "w", "n"}) {
            ThreeMeasures x = one("off 20 " + letter + "=0;off 3 " + letter + "<1;off 50 " + letter + ">0", 0, 0, 9);
            due.is("12: MIDDLE of none", x.between(0, 0, 0, 2), 0);
            due.is("12: SLACK by " + letter + " being 0", x.between(0, 0, 0, 3), 24);
        }
    }

    /** "l its LONG by 10 (cut), n how often (modulo 10)". */
    private static void longByTenAndTimesModuloTen() {
        for (int length = 2; length <= 60; length++) {
            ThreeMeasures x = one("off 7 l=" + length / 10 + ";off 20 l>" + length / 10, 0, 0, length);
            due.is("12: SLACK by l of " + length, x.between(0, 0, 1, 3), 8);
        }
        ThreeMeasures x = one("off 7 n=0;off 20 n=9;off 50 n=10;off 60 n>9", 0, 0, 10);
        for (int n = 0; n <= 30; n++) {
            due.is("12: SLACK by n of " + n, x.between(0, 0, n, 3), n % 10 == 0 ? 8 : n % 10 == 9 ? 21 : 1);
        }
    }

    /** "a number likewise": two digits are a number that no letter comes up to. */
    private static void numbersOfTests() {
        isSlack("v<10", 30);
        isSlack("v<99", 30);
        isSlack("v=99", 10);
        isSlack("v>10", 10);
        isSlack("n<10", 30);
        isSlack("n=19", 10);
        isSlack("l=60", 10);
        isSlack("l>0", 30);
        isSlack("k<0", 10);
    }

    /** "SLACK for each time: 1, and the n of all off whose E holds". */
    private static void offTogether() {
        isOff("step 1", 1);
        isOff("off 0 s=0", 1);
        isOff("off 1 s=1", 1);
        isOff("off 1 s=0", 2);
        isOff("off 99 s=0", 100);
        isOff("off 1 s=0;off 2 s=1;off 4 s=0", 6);
        isOff("wear 9 s=0;off 4 s=0;wear 9 s=0", 5);
        isOff("off 9 s=0;".repeat(9) + "off 8 s=0", 90);
    }

    private static void isOff(String room, int slack) {
        ThreeMeasures x = one(room, 0, 9, 10);
        due.is("12: SLACK by " + room, x.between(0, 0, 1, 3), slack);
        due.is("12: MOST by " + room, x.between(0, 0, 2, 1), 20 + 2 * slack);
    }

    /** "SET ON n times (0 .. 30)". */
    private static void setOnTimes() {
        ThreeMeasures x = one("", 0, 0, 60);
        due.is("12: -1 time", x.between(0, 0, -1, 2), BAD);
        for (int what = 0; what < 4; what++) {
            due.is("12: 0 times, " + what, x.between(0, 0, 0, what), what == 3 ? 1 : 0);
        }
        due.is("12: 30 times", x.between(0, 0, 30, 2), 1800);
        due.is("12: 31 times", x.between(0, 0, 31, 2), BAD);
        due.is("12: LEAST is not cut at 999", x.between(0, 0, 30, 0), 1770);
        due.is("12: MOST is not cut at 999", x.between(0, 0, 30, 1), 1830);
        due.is("11: -1 time", x.measure(0, 0, -1, 0, true), BAD);
        due.is("11: 0 times", x.measure(0, 0, 0, 0, true), 0);
        due.is("11: 31 times", x.measure(0, 0, 31, 0, true), BAD);
        due.is("10: GOES", x.told(0), 0);
        x.known(0, 0, 999);
        due.is("11: 30 times of 60 fit no WALL", x.measure(0, 0, 30, 0, true), STATE);
        due.is("10: GOES", x.told(0), 30);
        due.is("12: no what ahead of LEAST", x.between(0, 0, 1, -1), NONE);
        due.is("12: no what behind SLACK", x.between(0, 0, 1, 4), NONE);
    }

    /** "LEAST: MIDDLE less n times SLACK (0 at least)". */
    private static void leastIsNotBelowZero() {
        int[] slacks = {1, 9, 10, 11, 99};
        int[] leasts = {27, 3, 0, 0, 0};
        for (int i = 0; i < slacks.length; i++) {
            ThreeMeasures x = one("off " + (slacks[i] - 1) + " s=0", 0, 0, 10);
            due.is("12: LEAST by SLACK " + slacks[i], x.between(0, 0, 3, 0), leasts[i]);
            due.is("12: MOST by SLACK " + slacks[i], x.between(0, 0, 3, 1), 30 + 3 * slacks[i]);
        }
    }

    /** "WORN: n times the n of all wear whose E holds (LONG at most)"; "SLIPPING: as WORN, SLACK is 1 more". */
    private static void wornAndSlipping() {
        for (int kind = 1; kind <= 4; kind += 3) {
            isMiddle(one("", kind, 9, 10), 3, 30);
            isMiddle(one("wear 0 s=0", kind, 9, 10), 3, 30);
            isMiddle(one("wear 9 s=0", kind, 9, 10), 3, 3);
            isMiddle(one("wear 10 s=0", kind, 9, 10), 3, 0);
            isMiddle(one("wear 11 s=0", kind, 9, 10), 3, 0);
            isMiddle(one("wear 99 s=0", kind, 9, 60), 30, 0);
            isMiddle(one("wear 59 s=0", kind, 9, 60), 30, 30);
            isMiddle(one("wear 4 s=0;wear 5 s=0;wear 9 s=1;off 9 s=0", kind, 9, 10), 3, 3);
            isMiddle(one("wear 5 s=0;wear 5 s=0", kind, 9, 10), 3, 0);
            isMiddle(one("wear 9 s=0;wear 9 s=0", kind, 9, 10), 3, 0);
            due.is("12: SLACK", one("wear 9 s=0", kind, 9, 10).between(0, 0, 3, 3), kind == 1 ? 1 : 2);
            due.is("12: SLACK", one("off 9 s=0", kind, 9, 10).between(0, 0, 3, 3), kind == 1 ? 10 : 11);
        }
        for (int kind : new int[] {0, 2, 3, 5, 6}) {
            isMiddle(one("wear 9 s=0", kind, 0, 10), 3, 30);
        }
    }

    private static void isMiddle(ThreeMeasures x, int n, int want) {
        String call = "12: MIDDLE of " + n + " times KIND " + x.of(0, 0) + ", v " + x.of(0, 1) + ", LONG " + x.of(0, 2);
        due.is(call, x.between(0, 0, n, 2), want);
    }

    /** "TAPE: v, if n is above 0"; "MIDDLE is 0 at least". */
    private static void tape() {
        isMiddle(one("", 2, 9, 60), 0, 0);
        isMiddle(one("", 2, 9, 60), 1, 51);
        isMiddle(one("", 2, 9, 60), 30, 1791);
        isMiddle(one("", 2, 0, 60), 30, 1800);
        isMiddle(one("", 2, 4, 5), 1, 1);
        isMiddle(one("", 2, 5, 5), 1, 0);
        isMiddle(one("", 2, 6, 5), 1, 0);
        isMiddle(one("", 2, 6, 5), 2, 4);
        isMiddle(one("", 2, 9, 2), 4, 0);
        isMiddle(one("", 2, 9, 2), 5, 1);
        // LEAST and MOST are told from the MIDDLE that is 0 at least
        due.is("12: LEAST", one("", 2, 9, 2).between(0, 0, 1, 0), 0);
        due.is("12: MOST", one("", 2, 9, 2).between(0, 0, 1, 1), 1);
        due.is("12: SLACK", one("", 2, 9, 2).between(0, 0, 1, 3), 1);
    }

    /** "PACE: nothing; SLACK is v more". */
    private static void pace() {
        for (int v = 0; v <= 9; v += 9) {
            isMiddle(one("", 3, v, 20), 3, 60);
            due.is("12: SLACK of a PACE", one("", 3, v, 20).between(0, 0, 3, 3), 1 + v);
            due.is("12: SLACK of a PACE", one("off 5 s=0", 3, v, 20).between(0, 0, 3, 3), 6 + v);
            due.is("12: SLACK of another KIND", one("", 0, v, 20).between(0, 0, 3, 3), 1);
        }
    }

    /** "SAGGING: n times v by 2 (cut), LONG times n at most, in place of TAPE's". */
    private static void sagging() {
        isMiddle(one("", 5, 9, 60), 0, 0);
        isMiddle(one("", 5, 0, 60), 3, 180);
        isMiddle(one("", 5, 1, 60), 1, 60);
        isMiddle(one("", 5, 2, 60), 1, 59);
        isMiddle(one("", 5, 1, 60), 2, 119);
        isMiddle(one("", 5, 1, 60), 3, 179);
        isMiddle(one("", 5, 9, 60), 3, 167);
        isMiddle(one("", 5, 9, 60), 30, 1665);
        isMiddle(one("", 5, 3, 2), 1, 1);
        isMiddle(one("", 5, 3, 2), 2, 1);
        isMiddle(one("", 5, 4, 2), 1, 0);
        isMiddle(one("", 5, 4, 2), 2, 0);
        isMiddle(one("", 5, 5, 2), 2, 0);
        isMiddle(one("", 5, 9, 2), 30, 0);
        isMiddle(one("", 5, 9, 4), 1, 0);
        isMiddle(one("", 5, 9, 5), 1, 1);
        due.is("12: SLACK", one("", 5, 9, 5).between(0, 0, 1, 3), 1);
    }

    /** "TOLD: as PACE, and its ROW at n modulo 4 more (not less) in MIDDLE". */
    private static void told() {
        ThreeMeasures x = one("", 6, 9, 10);
        for (int k = 0; k < 4; k++) {
            x.row(0, k, 2 * k + 3);
        }
        for (int n = 0; n <= 30; n++) {
            isMiddle(x, n, 10 * n + 2 * (n % 4) + 3);
            due.is("12: SLACK of " + n + " times", x.between(0, 0, n, 3), 10);
        }
        due.is("12: LEAST of none is MIDDLE", x.between(0, 0, 0, 0), 3);
        due.is("12: MOST of none is MIDDLE", x.between(0, 0, 0, 1), 3);
    }

    /** "n times, and a REST r (0 .. 59)". */
    private static void restAndTimes() {
        ThreeMeasures x = one("", 0, 0, 10);
        due.is("11: r -1", x.measure(0, 0, 1, -1, true), BAD);
        due.is("11: r 60", x.measure(0, 0, 1, 60, true), BAD);
        due.is("11: r -1, lacking", x.measure(0, 0, 1, -1, false), BAD);
        due.is("11: r 60, lacking", x.measure(0, 0, 1, 60, false), BAD);
        due.is("10: GOES stay", x.told(0), 0);
        due.is("11: r 0", x.measure(0, 0, 1, 0, true), 2);
        due.is("8: LOW", x.at(0, 0), 9);
        x.known(0, 0, 999);
        due.is("11: r 59", x.measure(0, 0, 1, 59, true), 2);
        due.is("8: LOW", x.at(0, 0), 68);
        x.known(0, 0, 999);
        due.is("11: r 59, lacking", x.measure(0, 0, 7, 59, false), 14);
        due.is("8: LOW", x.at(0, 0), 4);
        due.is("8: HIGH", x.at(0, 1), 18);
    }

    /** "r more, or r less, each (0 at least)": 27 .. 33 by 3 times 10. */
    private static void moreAndLacking() {
        int[] rests = {0, 26, 27, 28, 32, 33, 34, 59};
        int[] lows = {27, 1, 0, 0, 0, 0, 0, 0};
        int[] highs = {33, 7, 6, 5, 1, 0, 0, 0};
        for (int i = 0; i < rests.length; i++) {
            ThreeMeasures x = one("", 0, 0, 10);
            due.is("11: " + rests[i] + " less", x.measure(0, 0, 3, rests[i], false), highs[i] - lows[i]);
            due.is("8: LOW", x.at(0, 0), lows[i]);
            due.is("8: HIGH", x.at(0, 1), highs[i]);
            ThreeMeasures y = one("", 0, 0, 10);
            due.is("11: " + rests[i] + " more", y.measure(0, 0, 3, rests[i], true), 6);
            due.is("8: LOW", y.at(0, 0), 27 + rests[i]);
            due.is("8: HIGH", y.at(0, 1), 33 + rests[i]);
        }
        // LEAST is 0 at least before the REST comes to it
        ThreeMeasures x = one("off 19 s=0", 0, 0, 10);
        due.is("11: 0 .. 30, 5 more", x.measure(0, 0, 1, 5, true), 30);
        due.is("8: LOW", x.at(0, 0), 5);
        due.is("8: HIGH", x.at(0, 1), 35);
    }

    /** "if LOW is then no more than HIGH. Else it is WRONG, and changes nothing but GOES": 27 .. 33 by 3 times 10. */
    private static void fitsOrIsWrong() {
        int[][] walls = {{33, 50}, {34, 50}, {0, 27}, {0, 26}, {27, 33}, {28, 32}, {26, 34}, {0, 0}, {999, 999}};
        int[][] then = {{33, 33}, null, {27, 27}, null, {27, 33}, {28, 32}, {27, 33}, null, null};
        for (int i = 0; i < walls.length; i++) {
            ThreeMeasures x = one("", 0, 0, 10);
            x.known(0, walls[i][0], walls[i][1]);
            int[] is = then[i] == null ? walls[i] : then[i];
            String call = "11: a WALL of " + walls[i][0] + " .. " + walls[i][1];
            due.is(call, x.measure(0, 0, 3, 0, true), then[i] == null ? STATE : is[1] - is[0]);
            due.is(call + ", LOW", x.at(0, 0), is[0]);
            due.is(call + ", HIGH", x.at(0, 1), is[1]);
            due.is(call + ", GOES", x.told(0), 3);
        }
        // a LEAST and a MOST of 0 each, for they are 0 at least
        ThreeMeasures x = one("", 0, 0, 10);
        x.known(0, 1, 999);
        due.is("11: 0 .. 0 is below LOW", x.measure(0, 0, 1, 59, false), STATE);
        x.known(0, 0, 999);
        due.is("11: 0 .. 0 is not below 0", x.measure(0, 0, 1, 59, false), 0);
    }

    /** HIGH becomes the lesser of both, so that it stays 999 where MOST is more. */
    private static void measuredBeyondLowAndHigh() {
        ThreeMeasures x = one("", 0, 0, 50);
        due.is("11: 980 .. 1020", x.measure(0, 0, 20, 0, true), 19);
        due.is("8: HIGH stays 999", x.at(0, 1), 999);
        due.is("11: 999 .. 1039", x.measure(0, 0, 20, 19, true), 0);
        due.is("8: LOW", x.at(0, 0), 999);
        x.known(0, 0, 999);
        due.is("11: 1000 .. 1040", x.measure(0, 0, 20, 20, true), STATE);
        due.is("8: LOW stays", x.at(0, 0), 0);
        due.is("10: GOES", x.told(0), 60);
    }

    /** "GOES: 0 at first"; "GOES are n more". */
    private static void goes() {
        ThreeMeasures x = one("", 0, 0, 10);
        due.is("10: at first", x.told(0), 0);
        due.is("11: none", x.measure(0, 0, 0, 30, true), 0);
        due.is("10: none more", x.told(0), 0);
        due.is("11: WRONG, none", x.measure(0, 0, 0, 31, true), STATE);
        due.is("10: none more", x.told(0), 0);
        due.is("11: one", x.measure(0, 0, 3, 0, true), 0);
        due.is("10: three more", x.told(0), 3);
        due.is("11: WRONG", x.measure(0, 0, 30, 0, true), STATE);
        due.is("10: thirty more", x.told(0), 33);
        due.is("10: no what ahead of GOES", x.told(-1), NONE);
        due.is("10: no what behind STEP", x.told(3), NONE);
    }

    /** "STATE: it is WRONG (GOES are n more all the same), or GOES are above 9900 (nothing changes)". */
    private static void goesAbove9900() {
        ThreeMeasures x = one("", 0, 0, 10);
        x.wall();
        due.is("11: 300 fits", x.measure(0, 0, 30, 0, true), 60);
        for (int i = 2; i < 330; i++) {
            x.measure(0, 0, 30, 0, true);
        }
        due.is("11: up to 9899", x.measure(0, 0, 29, 0, true), 49);
        due.is("10: GOES", x.told(0), 9899);
        due.is("11: WRONG at 9899", x.measure(0, 0, 1, 0, true), STATE);
        due.is("10: GOES are 9900", x.told(0), 9900);
        x.image();
        due.is("11: 9900 is not above 9900", x.measure(1, 0, 30, 0, true), 60);
        due.is("10: GOES are 9930", x.told(0), 9930);
        due.is("11: above 9900, also for none", x.measure(1, 0, 0, 0, true), STATE);
        x.undo();
        due.is("11: WRONG at 9900", x.measure(0, 0, 1, 0, true), STATE);
        due.is("10: GOES are 9901", x.told(0), 9901);
        due.is("11: above 9900", x.measure(1, 0, 30, 0, true), STATE);
        due.is("8: nothing changes", x.at(1, 2), 999);
        due.is("11: above 9900, WRONG too", x.measure(0, 0, 1, 0, true), STATE);
        due.is("10: nothing changes", x.told(0), 9901);
        due.is("11: NONE ahead of STATE", x.measure(2, 0, 1, 0, true), NONE);
        due.is("11: NONE ahead of STATE", x.measure(0, 1, 1, 0, true), NONE);
        due.is("11: BAD ahead of STATE", x.measure(0, 0, 31, 0, true), BAD);
        due.is("11: BAD ahead of STATE", x.measure(0, 0, 1, 60, true), BAD);
        x.undo();
        due.is("10: GOES are as THE IMAGE", x.told(0), 9900);
        due.is("11: and taken again", x.measure(1, 0, 30, 0, true), 60);
    }
}
