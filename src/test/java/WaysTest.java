/** Promises 13 to 16: surest, twice, again, square. */
public final class WaysTest {
    private static final int NONE = -1, BAD = -2, NEVER = -5;
    private static final Due due = new Due();

    public static void main(String[] args) {
        surest();
        surestAmongSeveral();
        twice();
        twiceAmongSeveral();
        again();
        againNearest();
        square();
        due.end();
    }

    private static ThreeMeasures withWall() {
        ThreeMeasures x = new ThreeMeasures();
        x.wall();
        return x;
    }

    private static void isSurest(ThreeMeasures x, int wall, int length, int stick, int n, int much) {
        String call = "13: surest(" + wall + ", " + length + ", ";
        due.is(call + "0)", x.surest(wall, length, 0), stick);
        due.is(call + "1)", x.surest(wall, length, 1), n);
        due.is(call + "2)", x.surest(wall, length, 2), much);
    }

    private static void surest() {
        ThreeMeasures x = withWall();
        isSurest(x, 0, 50, NEVER, NEVER, NEVER);
        x.stick(0, 0, 10);
        isSurest(x, 0, 59, 0, 0, 0);
        isSurest(x, 0, 60, 0, 1, 2);
        isSurest(x, 0, 69, 0, 1, 2);
        isSurest(x, 0, 70, 0, 2, 4);
        isSurest(x, 0, 359, 0, 30, 60);
        isSurest(x, 0, 360, NEVER, NEVER, NEVER);
        x.stick(0, 0, 60);
        isSurest(x, 0, 60, 0, 1, 2);
        isSurest(x, 0, 119, 1, 1, 2);
        isSurest(x, 0, 120, 1, 2, 4);
        isSurest(x, 0, 999, 1, 16, 32);
        isSurest(x, 0, 1, 0, 0, 0);
        due.is("13: no such WALL", x.surest(1, 1, 0), NONE);
        due.is("13: no such WALL", x.surest(-1, 1, 0), NONE);
        due.is("13: no such what", x.surest(0, 1, 3), NONE);
        due.is("13: no such what", x.surest(0, 1, -1), NONE);
        due.is("13: NONE ahead of BAD", x.surest(0, 0, 3), NONE);
        due.is("13: too short", x.surest(0, 0, 0), BAD);
        due.is("13: too long", x.surest(0, 1000, 0), BAD);
        due.is("13: BAD without a STICK", withWall().surest(0, 0, 0), BAD);
        due.is("13: it changes nothing", x.told(0), 0);
    }

    private static void surestAmongSeveral() {
        ThreeMeasures x = due.in("off 9 w=0&n<4;off 8 s=0");
        x.wall();
        x.wall();
        x.stick(0, 0, 20);
        x.stick(0, 0, 20);
        x.stick(0, 0, 20);
        isSurest(x, 1, 100, 1, 3, 6);
        isSurest(x, 0, 100, 1, 4, 8);
        // LEAST is 0 at least: a STICK that is off by more than it is long is at no length below 0
        ThreeMeasures y = due.in("off 99 n=1;off 49 n=2");
        y.wall();
        y.stick(0, 0, 60);
        isSurest(y, 0, 119, 0, 1, 160);
        isSurest(y, 0, 120, 0, 2, 200);
        ThreeMeasures z = due.in("off 5 n=1");
        z.wall();
        z.stick(0, 0, 60);
        isSurest(z, 0, 119, 0, 1, 12);
        isSurest(z, 0, 120, 0, 2, 4);
    }

    private static void isTwice(ThreeMeasures x, int length, int... wanted) {
        for (int what = 0; what < 6; what++) {
            due.is("14: twice(0, " + length + ", " + what + ")", x.twice(0, length, what), wanted[what]);
        }
    }

    private static void twice() {
        ThreeMeasures x = withWall();
        int[] never = {NEVER, NEVER, NEVER, NEVER, NEVER, NEVER};
        isTwice(x, 10, never);
        x.stick(0, 0, 10);
        isTwice(x, 10, 1, 0, 0, 0, 1, 0);
        isTwice(x, 90, 9, 0, 0, 0, 9, 0);
        isTwice(x, 100, 10, 0, 1, 0, 9, 0);
        isTwice(x, 180, 18, 0, 9, 0, 9, 0);
        isTwice(x, 190, never);
        isTwice(x, 15, never);
        x.stick(0, 0, 7);
        isTwice(x, 3, 2, 0, 1, 1, 1, 1);
        isTwice(x, 4, 3, 1, 2, 0, 1, 1);
        isTwice(x, 17, 2, 0, 1, 1, 1, 0);
        isTwice(x, 27, 3, 0, 2, 1, 1, 0);
        due.is("14: no such WALL", x.twice(1, 1, 0), NONE);
        due.is("14: no such WALL", x.twice(-1, 1, 0), NONE);
        due.is("14: no such what", x.twice(0, 1, 6), NONE);
        due.is("14: no such what", x.twice(0, 1, -1), NONE);
        due.is("14: NONE ahead of BAD", x.twice(0, 0, 6), NONE);
        due.is("14: too short", x.twice(0, 0, 0), BAD);
        due.is("14: too long", x.twice(0, 1000, 0), BAD);
        due.is("14: 999 is not too long", x.twice(0, 999, 0), NEVER);
    }

    private static void twiceAmongSeveral() {
        // 20 is 2 of 10 (SLACK 1 each), once 20 (SLACK 3), or 30 less 10 (1 and 1): 2 of 10 by none ahead is the first
        ThreeMeasures x = due.in("off 2 s=1");
        x.wall();
        x.stick(0, 0, 10);
        x.stick(0, 0, 20);
        x.stick(0, 0, 30);
        isTwice(x, 20, 2, 0, 0, 0, 2, 0);
        // how often counts where an E looks at n: twice at once is off by 5 each time
        ThreeMeasures y = due.in("off 4 n=2");
        y.wall();
        y.stick(0, 0, 10);
        y.stick(0, 0, 10);
        isTwice(y, 20, 2, 0, 1, 0, 1, 0);
        isTwice(y, 30, 3, 0, 0, 0, 3, 0);
        // a ROW makes a length out of no time: 9 of none, on top ahead of taken away
        ThreeMeasures z = withWall();
        z.stick(6, 0, 10);
        z.row(0, 0, 9);
        isTwice(z, 18, 0, 0, 0, 0, 0, 0);
        isTwice(z, 1, 1, 0, 1, 0, 0, 1);
        isTwice(z, 19, 1, 0, 0, 0, 1, 0);
    }

    private static void again() {
        ThreeMeasures x = withWall();
        due.is("15: no STICK", x.again(0, 0, 0), NONE);
        x.stick(0, 0, 10);
        x.known(0, 0, 999);
        due.is("15: n 0, from 999 to 0", x.again(0, 0, 0), 10);
        due.is("15: to 1", x.again(0, 0, 1), 9);
        due.is("15: to 499", x.again(0, 0, 499), 1);
        due.is("15: to 498", x.again(0, 0, 498), 2);
        due.is("15: not once", x.again(0, 0, 999), 0);
        x.known(0, 100, 200);
        due.is("15: n 10: 100, 50, 25, 12, 10", x.again(0, 0, 10), 4);
        due.is("15: to 12", x.again(0, 0, 12), 3);
        due.is("15: not below n times SLACK", x.again(0, 0, 9), NEVER);
        x.known(0, 100, 107);
        due.is("15: GAP is less already", x.again(0, 0, 7), 0);
        due.is("15: and stays so", x.again(0, 0, 6), NEVER);
        due.is("15: no such WALL", x.again(1, 0, 0), NONE);
        due.is("15: no such WALL", x.again(-1, 0, 0), NONE);
        due.is("15: no such STICK", x.again(0, 1, 0), NONE);
        due.is("15: no such STICK", x.again(0, -1, 0), NONE);
        due.is("15: NONE ahead of BAD", x.again(0, 1, 1000), NONE);
        due.is("15: g too little", x.again(0, 0, -1), BAD);
        due.is("15: g too much", x.again(0, 0, 1000), BAD);
        due.is("15: it changes nothing", x.at(0, 2), 7);
    }

    private static void againNearest() {
        ThreeMeasures x = due.in("off 1 n=2;off 2 n=3");
        x.wall();
        x.stick(0, 0, 10);
        x.known(0, 25, 125);
        due.is("15: of 20 and 30 the least n: 4", x.again(0, 0, 4), 5);
        due.is("15: below 4", x.again(0, 0, 3), NEVER);
        x.known(0, 26, 126);
        due.is("15: 30 is nearer: 9", x.again(0, 0, 9), 4);
        due.is("15: below 9", x.again(0, 0, 8), NEVER);
        x.known(0, 500, 999);
        due.is("15: 30 times at most", x.again(0, 0, 30), 5);
        due.is("15: below 30", x.again(0, 0, 29), NEVER);
    }

    private static void square() {
        ThreeMeasures x = new ThreeMeasures();
        due.is("16: no WALL", x.square(0, 0, 0), NONE);
        for (int i = 0; i < 4; i++) {
            x.wall();
        }
        due.is("16: all is open", x.square(0, 1, 2), 1);
        x.known(0, 3, 3);
        x.known(1, 4, 4);
        x.known(2, 5, 5);
        due.is("16: it must be", x.square(0, 1, 2), 2);
        due.is("16: also by turns", x.square(1, 0, 2), 2);
        due.is("16: c is the longest", x.square(2, 1, 0), 0);
        due.is("16: nor so", x.square(0, 2, 1), 0);
        due.is("16: it can, for c is open", x.square(0, 1, 3), 1);
        due.is("16: it can, for a is open", x.square(3, 1, 2), 1);
        due.is("16: it can, for b is open", x.square(0, 3, 2), 1);
        x.known(2, 6, 7);
        due.is("16: no whole length between", x.square(0, 1, 2), 0);
        x.known(2, 4, 5);
        due.is("16: HIGH too", x.square(0, 1, 2), 1);
        x.known(2, 5, 6);
        due.is("16: LOW too", x.square(0, 1, 2), 1);
        x.known(0, 3, 4);
        x.known(2, 5, 5);
        due.is("16: two that are one are each by itself", x.square(0, 0, 2), 1);
        x.known(0, 5, 5);
        due.is("16: twice 25 is no square", x.square(0, 0, 3), 0);
        x.known(0, 600, 999);
        x.known(1, 800, 999);
        due.is("16: 600, 800 and 1000", x.square(0, 1, 3), 0);
        x.known(0, 20, 28);
        x.known(1, 90, 99);
        x.known(2, 1, 100);
        due.is("16: 28, 96, 100", x.square(0, 1, 2), 1);
        x.known(0, 20, 27);
        x.known(1, 94, 99);
        due.is("16: none", x.square(0, 1, 2), 0);
        x.known(0, 0, 0);
        x.known(1, 5, 5);
        x.known(2, 6, 6);
        due.is("16: 0, 5, 6", x.square(0, 1, 2), 0);
        // a length may be 0, and the document keeps none out
        due.is("16: 0, 5, 5", x.square(0, 1, 1), 2);
        due.is("16: 0, 0, 0", x.square(0, 0, 0), 2);
        due.is("16: 0, 0, 6", x.square(0, 0, 2), 0);
        due.is("16: no such a", x.square(4, 0, 0), NONE);
        due.is("16: no such b", x.square(0, 4, 0), NONE);
        due.is("16: no such c", x.square(0, 0, 4), NONE);
        due.is("16: no such a", x.square(-1, 0, 0), NONE);
    }
}
