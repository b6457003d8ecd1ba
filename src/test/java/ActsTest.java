/** Promises 31 to 36: act, trace, as, image, undo, count. */
public final class ActsTest {
    private static final int NONE = -1, STATE = -3, OTHER = -6;
    private static final Due due = new Due();

    public static void main(String[] args) {
        actAndTrace();
        actsWrap();
        actsRefused();
        as();
        imageAndUndo();
        imageChangesNothing();
        imageOfEach();
        imageTwice();
        count();
        due.end();
    }

    /** STICKS 0 .. 5 of the KINDS 1 .. 6, v being 3 more than the number. */
    private static ThreeMeasures six() {
        ThreeMeasures x = new ThreeMeasures();
        for (int i = 0; i < 6; i++) {
            due.is("4: a STICK", x.stick(i + 1, i + 3, 10), i);
        }
        return x;
    }

    private static void isAct(ThreeMeasures x, int stick, int act, int with, int wanted, int... bodies) {
        String call = "act(" + stick + ", " + act + ", " + with + ")";
        due.is("31: " + call, x.act(stick, act, with), wanted);
        due.is("36: bodies of " + call, x.count(7), bodies.length);
        for (int i = 0; i < bodies.length; i++) {
            due.is("32: trace(" + i + ") of " + call, x.trace(i), bodies[i]);
        }
        due.is("32: no more bodies of " + call, x.trace(bodies.length), NONE);
        due.is("32: none ahead", x.trace(-1), NONE);
    }

    private static void actAndTrace() {
        ThreeMeasures y = new ThreeMeasures();
        y.stick(0, 9, 10);
        y.stick(0, 4, 10);
        isAct(y, 1, 0, 5, 6, 1);
        isAct(y, 1, 1, 5, 2, 2, 1);
        isAct(y, 1, 2, 5, 4, 3, 2, 1);
        isAct(y, 0, 2, 5, -8, 3, 2, 1);
        ThreeMeasures x = six();
        // WORN, number 0, v 3
        isAct(x, 0, 0, 5, 15, 11, 1);
        isAct(x, 0, 1, 5, 12, 2, 11, 1);
        isAct(x, 0, 2, 5, 24, 3, 2, 11, 1);
        // TAPE, number 1, v 4
        isAct(x, 1, 0, 5, 6, 1);
        isAct(x, 1, 1, 5, -2, 21, 2, 1);
        isAct(x, 1, 2, 5, -4, 3, 21, 2, 1);
        // PACE, number 2, v 5
        isAct(x, 2, 0, 5, 7, 1);
        isAct(x, 2, 1, 5, 2, 2, 1);
        isAct(x, 2, 2, 5, 4 ^ 7, 31, 3, 2, 1);
        // SLIPPING, number 3, v 6: sets 3x + 3, reads 3x - 3, tells (3(x - 1) - 3) * 2 + 9
        isAct(x, 3, 0, 5, 18, 11, 1);
        isAct(x, 3, 1, 5, 12, 2, 11, 1);
        isAct(x, 3, 2, 5, 27, 41, 3, 2, 11, 1, 11, 1);
        // SAGGING, number 4, v 7: sets (x + 4) ^ 4
        isAct(x, 4, 0, 5, 13, 51, 1);
        isAct(x, 4, 0, 0, 0, 51, 1);
        isAct(x, 4, 1, 5, -6, 21, 2, 51, 1);
        isAct(x, 4, 2, 5, -12, 3, 21, 2, 51, 1);
        // TOLD, number 5, v 8
        isAct(x, 5, 0, 6, 11, 1);
        isAct(x, 5, 1, 6, 11, 61, 2, 1);
        isAct(x, 5, 2, 6, 22 ^ 7, 31, 3, 61, 2, 1);
    }

    private static void actsWrap() {
        ThreeMeasures x = six();
        isAct(x, 5, 0, Integer.MAX_VALUE, Integer.MIN_VALUE + 4, 1);
        isAct(x, 0, 0, Integer.MAX_VALUE, Integer.MAX_VALUE - 2, 11, 1);
        isAct(x, 3, 2, Integer.MIN_VALUE, (3 * (Integer.MIN_VALUE - 1) - 3) * 2 + 9, 41, 3, 2, 11, 1, 11, 1);
        isAct(x, 1, 1, Integer.MIN_VALUE + 3, Integer.MIN_VALUE, 21, 2, 1);
    }

    private static void actsRefused() {
        ThreeMeasures x = six();
        isAct(x, 0, 1, 5, 12, 2, 11, 1);
        isAct(x, 6, 0, 5, 0);
        x.act(0, 1, 5);
        isAct(x, -1, 0, 5, 0);
        x.act(0, 1, 5);
        isAct(x, 0, 3, 5, 0);
        x.act(0, 1, 5);
        isAct(x, 0, -1, 5, 0);
        due.is("32: no TRACE of a new object", new ThreeMeasures().trace(0), NONE);
        due.is("32: no such i", x.trace(20), NONE);
        due.is("32: no such i", x.trace(Integer.MAX_VALUE), NONE);
    }

    private static void as() {
        int[][] kinds = {{0}, {1, 0}, {2, 0}, {3, 0}, {4, 1, 0}, {5, 2, 0}, {6, 3, 0}};
        for (int kind = 0; kind < 7; kind++) {
            ThreeMeasures x = new ThreeMeasures();
            x.stick(kind, kind + 2, 10);
            for (int k = 0; k < 7; k++) {
                int wanted = OTHER;
                for (int above : kinds[kind]) {
                    wanted = above == k ? kind + 2 : wanted;
                }
                due.is("33: a STICK of KIND " + kind + " taken for " + k, x.as(0, k), wanted);
            }
            due.is("33: no such KIND", x.as(0, 7), NONE);
            due.is("33: no such KIND", x.as(0, -1), NONE);
            due.is("33: no such STICK", x.as(1, 0), NONE);
            due.is("33: no such STICK", x.as(-1, 0), NONE);
        }
    }

    /** All that can be asked of an object, but THE TRACE. */
    private static String all(ThreeMeasures x) {
        StringBuilder told = new StringBuilder();
        for (int i = 0; i < 7; i++) {
            told.append(x.count(i)).append(' ');
        }
        for (int i = 0; i < 3; i++) {
            told.append(x.told(i)).append(' ');
        }
        for (int i = 0; i < 6; i++) {
            for (int k = 0; k < 3; k++) {
                told.append(x.of(i, k)).append(' ').append(x.at(i, k)).append(' ');
            }
            for (int n = 0; n < 5; n++) {
                told.append(x.between(i, 0, n, 2)).append(' ').append(x.between(i, 0, n, 3)).append(' ');
            }
            told.append(x.whose(i)).append(' ').append(x.wrong(i)).append(' ');
        }
        for (int i = 0; i < 8; i++) {
            told.append(x.closed(i)).append(' ');
        }
        return told.append(x.looked()).toString();
    }

    private static void isSame(String call, String got, String wanted) {
        due.is(call, got.equals(wanted) ? 1 : 0, 1);
    }

    private static ThreeMeasures filled() {
        ThreeMeasures x = due.in("board 30;step 2;off 3 k=6;wear 1 k=1");
        x.stick(6, 4, 10);
        x.stick(1, 4, 20);
        x.row(0, 1, 5);
        x.wall();
        x.wall();
        x.known(1, 10, 50);
        x.measure(0, 1, 4, 3, true);
        x.step(0, 50);
        x.step(2, 40);
        x.mark(10);
        x.mark(30);
        x.book(1, 20);
        x.book(1, 51);
        x.feed(98);
        x.feed(111);
        return x;
    }

    private static void imageAndUndo() {
        ThreeMeasures x = filled();
        String before = all(x);
        due.is("34: image()", x.image(), 2);
        x.stick(2, 1, 30);
        x.row(0, 1, 9);
        x.row(0, 2, 7);
        x.wall();
        x.known(1, 0, 999);
        x.measure(0, 0, 3, 0, true);
        x.step(-1, 0);
        x.step(1, 9);
        x.mark(-1);
        x.mark(77);
        x.book(-1, 0);
        x.book(0, 7);
        x.room();
        Due.read(x, "board 9;off 50 s<9");
        x.feed(1);
        x.act(0, 2, 5);
        due.is("35: undo()", x.undo(), 2);
        isSame("35: all is as THE IMAGE", all(x), before);
        due.is("35: THE TRACE is not in it", x.trace(0), 31);
        due.is("35: nor how many ran", x.count(7), 5);
        due.is("35: THE TAPE has its signs again: boa", x.feed('a'), 3);
        x.feed('r');
        x.feed('d');
        x.feed(' ');
        x.feed('8');
        due.is("35: and they are read", x.room(), 1);
        due.is("35: BOARD", x.told(1), 8);
        due.is("35: undo() again", x.undo(), 2);
        isSame("35: THE IMAGE stays", all(x), before);
        due.is("34: image() of a new object", new ThreeMeasures().image(), 0);
    }

    private static void imageChangesNothing() {
        ThreeMeasures x = filled();
        String before = all(x);
        due.is("35: there is none", x.undo(), STATE);
        isSame("35: and nothing changed", all(x), before);
        due.is("34: image()", x.image(), 2);
        isSame("34: it changes nothing", all(x), before);
    }

    /** After each change alone all is as it was. */
    private static void imageOfEach() {
        for (int change = 0; change < 10; change++) {
            ThreeMeasures x = filled();
            String before = all(x);
            x.image();
            switch (change) {
                case 0: due.is("35: a STICK", x.stick(0, 0, 9), 2); break;
                case 1: due.is("35: a ROW", x.row(0, 1, 6), 5); break;
                case 2: due.is("35: a WALL", x.wall(), 2); break;
                case 3: due.is("35: LOW, HIGH", x.known(1, 11, 49), 40); break;
                case 4: due.is("35: GOES", x.measure(0, 1, 30, 0, true), STATE); break;
                case 5: due.is("35: ROUND", x.step(3, 12), 3); break;
                case 6: due.is("35: MARKS", x.mark(40), 3); break;
                case 7: due.is("35: BOOK", x.book(0, 0), 3); break;
                case 8: due.is("35: THE TAPE", x.feed(5), 3); break;
                default: due.is("35: a ROOM", x.room(), -12); break;
            }
            isSame("35: change " + change + " is seen", all(x).equals(before) ? "" : before, before);
            due.is("35: undo()", x.undo(), 2);
            isSame("35: change " + change + " is gone", all(x), before);
        }
    }

    private static void imageTwice() {
        ThreeMeasures x = new ThreeMeasures();
        due.is("34: nothing", x.image(), 0);
        x.stick(6, 1, 10);
        due.is("34: the newest one counts", x.image(), 1);
        x.stick(0, 1, 10);
        x.row(0, 0, 5);
        due.is("35: one STICK", x.undo(), 1);
        due.is("35: its ROW", x.row(0, 0, 7), 0);
        due.is("34: again", x.image(), 1);
        due.is("6: row", x.row(0, 0, 1), 7);
        due.is("35: one STICK", x.undo(), 1);
        due.is("35: its ROW", x.row(0, 0, 7), 7);
        ThreeMeasures y = new ThreeMeasures();
        for (int i = 0; i < 5; i++) {
            Due.read(y, "board " + i);
            due.is("34: image", y.image(), 0);
        }
        due.is("3: FULL", y.room(), -4);
        ThreeMeasures z = new ThreeMeasures();
        z.image();
        for (int i = 0; i < 12; i++) {
            due.is("35: a ROOM is number 0 after each undo", Due.read(z, "board " + i), 0);
            due.is("10: BOARD", z.told(1), i);
            z.undo();
            due.is("10: no ROOM", z.told(1), 40);
        }
    }

    private static void count() {
        ThreeMeasures x = filled();
        int[] wanted = {2, 2, 1, 2, 2, 2, 2, 0};
        for (int what = 0; what < 8; what++) {
            due.is("36: count(" + what + ")", x.count(what), wanted[what]);
        }
        due.is("36: no such what", x.count(8), NONE);
        due.is("36: no such what", x.count(-1), NONE);
        x.stick(0, 0, 9);
        x.wall();
        x.wall();
        x.step(0, 1);
        x.mark(900);
        x.book(0, 0);
        x.feed(0);
        x.act(0, 0, 0);
        int[] then = {3, 4, 1, 3, 3, 3, 3, 1};
        for (int what = 0; what < 8; what++) {
            due.is("36: count(" + what + ")", x.count(what), then[what]);
        }
    }
}
