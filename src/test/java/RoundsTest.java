/** Promises 17 to 19: step, off, closed. */
public final class RoundsTest {
    private static final int NONE = -1, BAD = -2, FULL = -4, NO_LENGTH = -1001;
    private static final Due due = new Due();

    public static void main(String[] args) {
        step();
        off();
        closed();
        due.end();
    }

    private static void step() {
        ThreeMeasures x = new ThreeMeasures();
        due.is("17: no such way", x.step(4, 1), NONE);
        due.is("17: no such way", x.step(-2, 1), NONE);
        due.is("17: NONE ahead of BAD", x.step(4, 0), NONE);
        due.is("17: too short", x.step(0, 0), BAD);
        due.is("17: too long", x.step(0, 100), BAD);
        due.is("17: none came", x.count(3), 0);
        for (int i = 1; i <= 8; i++) {
            due.is("17: one more", x.step(i % 4, i == 8 ? 99 : i), i);
        }
        due.is("17: FULL", x.step(0, 1), FULL);
        due.is("17: BAD ahead of FULL", x.step(0, 100), BAD);
        due.is("17: NONE ahead of FULL", x.step(4, 1), NONE);
        due.is("17: none then", x.step(-1, 500), 0);
        due.is("17: none", x.count(3), 0);
        due.is("17: again the first", x.step(0, 1), 1);
        due.is("17: none then", x.step(-1, 1), 0);
    }

    private static ThreeMeasures round(int... steps) {
        ThreeMeasures x = new ThreeMeasures();
        for (int i = 0; i + 1 < steps.length; i += 2) {
            due.is("17: a step", x.step(steps[i], steps[i + 1]), i / 2 + 1);
        }
        return x;
    }

    private static void off() {
        ThreeMeasures x = round(0, 10, 1, 20, 2, 33, 3, 5, 0, 1, 1, 7);
        due.is("18: east", x.off(0), -22);
        due.is("18: north", x.off(1), 22);
        due.is("18: no such what", x.off(2), NO_LENGTH);
        due.is("18: no such what", x.off(-1), NO_LENGTH);
        due.is("18: nothing", new ThreeMeasures().off(1), 0);
    }

    private static void isClosed(ThreeMeasures x, int... lengths) {
        for (int k = 0; k < lengths.length; k++) {
            due.is("19: closed(" + k + ")", x.closed(k), lengths[k]);
        }
        due.is("19: no such k", x.closed(lengths.length), NO_LENGTH);
        due.is("19: no such k", x.closed(-1), NO_LENGTH);
    }

    private static void closed() {
        isClosed(new ThreeMeasures());
        // the last one alone along its way gets all
        isClosed(round(0, 50), 0);
        isClosed(round(3, 50), 0);
        isClosed(round(0, 50, 1, 3), 0, 0);
        // 10 by 90: 5 of 50, 5 left for 40
        isClosed(round(0, 50, 2, 40), 45, 45);
        // -10 by 90: cut toward 0
        isClosed(round(0, 40, 2, 50), 44, 44);
        // off 11 by 31 + 10 + 10: 6 of 6.7, 2 of 2.2, 3 left
        isClosed(round(0, 31, 2, 10, 2, 10), 25, 12, 13);
        // off -11, likewise toward 0: -6, -2, -3 left
        isClosed(round(2, 31, 0, 10, 0, 10), 25, 12, 13);
        // the ways do not mix, and the last of each gets what is left
        isClosed(round(1, 31, 0, 99, 3, 10, 2, 99, 3, 10), 25, 99, 12, 99, 13);
        // eight of one way: 8 by 8 each
        isClosed(round(0, 1, 0, 1, 0, 1, 0, 1, 0, 1, 0, 1, 0, 1, 0, 1), 0, 0, 0, 0, 0, 0, 0, 0);
        // off 4 by 5 + 1 + 1 + 1: 2 of 2.5, 0 of 0.5, 0, 2 left for the last: below 0
        isClosed(round(0, 5, 0, 1, 2, 1, 2, 1), 3, 1, 1, 3);
        isClosed(round(0, 5, 2, 1, 2, 1, 0, 1), 3, 1, 1, -1);
        ThreeMeasures x = round(0, 50, 2, 40);
        x.closed(0);
        due.is("19: it changes nothing", x.off(0), 10);
    }
}
