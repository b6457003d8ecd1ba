/** Promises 20 to 22: cut, cost, cups. */
public final class CutsTest {
    private static final int NONE = -1, BAD = -2, NEVER = -5;
    private static final long NO = Long.MIN_VALUE;
    private static final Due due = new Due();

    public static void main(String[] args) {
        cutAndCost();
        cutsRefused();
        cups();
        due.end();
    }

    /** The length and the cost for a WALL of LOW .. HIGH in a ROOM. */
    private static void isCut(String room, int low, int high, int length, long above, long below) {
        ThreeMeasures x = due.in(room);
        x.wall();
        x.wall();
        x.known(1, low, high);
        String call = "(1) of " + low + " .. " + high + " by " + room;
        due.is("20: cut" + call, x.cut(1), length);
        due.is("21: above of cost" + call, x.cost(1, 0), above);
        due.is("21: below of cost" + call, x.cost(1, 1), below);
        due.is("20: it changes nothing", x.at(1, 0) * 1000 + x.at(1, 1), low * 1000 + high);
    }

    private static void cutAndCost() {
        isCut("board 40;step 1", 10, 10, 10, 0, 1);
        isCut("board 0;step 1", 10, 20, 10, 0, 1);
        isCut("board 40;step 0", 10, 20, 20, 0, 1);
        isCut("board 0;step 0", 10, 20, 10, 0, 1);
        // 4 lengths, BOARD 2 and STEP 1: 2 2 2 = 6; 2 2 + 1 = 5; 2 + 1 + 2 = 5; 1 + 2 + 3 = 6: the first of 5 by 4
        isCut("board 2;step 1", 7, 10, 8, 5, 4);
        // BOARD 3 and STEP 3: 9, 9, 12, 18
        isCut("board 3;step 3", 7, 10, 7, 9, 4);
        // no more than 60 above LOW: 39 too short, and 1 + .. + 60 too long
        isCut("board 99;step 1", 100, 199, 160, 39 * 99 + 1830, 100);
        isCut("board 99;step 1", 100, 160, 160, 30, 1);
        isCut("board 99;step 1", 100, 161, 160, 99 + 1830, 62);
        // without a ROOM 40 and 1
        ThreeMeasures x = new ThreeMeasures();
        x.wall();
        due.is("20: cut without a ROOM", x.cut(0), 39);
        due.is("21: above", x.cost(0, 0), 1959);
        due.is("21: below", x.cost(0, 1), 50);
    }

    private static void cutsRefused() {
        ThreeMeasures x = new ThreeMeasures();
        due.is("20: no WALL", x.cut(0), NONE);
        due.is("21: no WALL", x.cost(0, 0), NO);
        x.wall();
        due.is("20: no such WALL", x.cut(1), NONE);
        due.is("20: no such WALL", x.cut(-1), NONE);
        due.is("21: no such WALL", x.cost(1, 0), NO);
        due.is("21: no such WALL", x.cost(-1, 1), NO);
        due.is("21: no such part", x.cost(0, 2), NO);
        due.is("21: no such part", x.cost(0, -1), NO);
    }

    private static void cups() {
        ThreeMeasures x = new ThreeMeasures();
        due.is("22: nothing to do", x.cups(3, 5, 0), 0);
        due.is("22: a filling", x.cups(3, 5, 3), 1);
        due.is("22: a filling", x.cups(3, 5, 5), 1);
        due.is("22: fill and pour over", x.cups(3, 5, 2), 2);
        due.is("22: four", x.cups(3, 5, 4), 6);
        due.is("22: four, by turns", x.cups(5, 3, 4), 6);
        due.is("22: one", x.cups(3, 5, 1), 4);
        due.is("22: more than both hold", x.cups(3, 5, 6), NEVER);
        due.is("22: even ones", x.cups(2, 4, 3), NEVER);
        due.is("22: 3 and 6", x.cups(6, 3, 4), NEVER);
        due.is("22: alike", x.cups(40, 40, 40), 1);
        due.is("22: alike", x.cups(40, 40, 20), NEVER);
        due.is("22: 1 and 40", x.cups(1, 40, 20), 39 + 1);
        due.is("22: the longest", x.cups(40, 39, 20), 76);
        due.is("22: a too little", x.cups(0, 1, 0), BAD);
        due.is("22: a too much", x.cups(41, 1, 0), BAD);
        due.is("22: b too little", x.cups(1, 0, 0), BAD);
        due.is("22: b too much", x.cups(1, 41, 0), BAD);
        due.is("22: wanted too little", x.cups(1, 1, -1), BAD);
        due.is("22: wanted too much", x.cups(1, 1, 41), BAD);
        due.is("22: wanted 40", x.cups(1, 1, 40), NEVER);
        due.is("22: the same again", x.cups(3, 5, 4), 6);
        PlainMeasures plain = new PlainMeasures();
        for (int b = 1; b <= 40; b += 2) {
            for (int a = 1; a <= 40; a += 3) {
                int wanted = (a * 7 + b * 11) % 41;
                due.is("22: cups(" + a + ", " + b + ", " + wanted + ")", x.cups(a, b, wanted), plain.cups(a, b, wanted));
            }
        }
    }
}
