import java.util.function.Consumer;
import java.util.function.ToLongFunction;

/** "Terms", part 3: each refusal of each promise, of several the first one told, and that it changes nothing. */
public final class RefusalsTest {
    private static final int NONE = -1, BAD = -2, STATE = -3, FULL = -4, NEVER = -5, OTHER = -6, NO_LENGTH = -1001;
    private static final long NO = Long.MIN_VALUE;
    /** Numbers that no STICK, WALL, KIND, way, what, part, k or i has, -1 aside. */
    private static final int[] FAR = {-2, -3, -1000, Integer.MIN_VALUE, Integer.MIN_VALUE + 1, 8, 31, 32, 64, 100000,
        Integer.MAX_VALUE - 1, Integer.MAX_VALUE};
    private static final Due due = new Due();

    public static void main(String[] args) {
        feedAndRoom();
        stickAndOf();
        row();
        wallAtKnownTold();
        measure();
        measureWrongAndAbove9900();
        between();
        surestAndTwice();
        againAndSquare();
        rounds();
        cutsAndCups();
        marks();
        oddsAndMean();
        books();
        acts();
        imageAndCount();
        farNumbers();
        askingChangesNothing();
        due.end();
    }

    /** Two of most, with an image of one, and a THE TAPE that is a ROOM. */
    private static void some(ThreeMeasures x) {
        Due.read(x, "off 2 k=6;wear 1 k=1;board 30;step 2");
        x.stick(6, 4, 10);
        x.wall();
        x.known(0, 100, 200);
        x.row(0, 1, 5);
        x.mark(12);
        x.step(0, 50);
        x.book(0, 150);
        x.image();
        x.stick(1, 3, 20);
        x.row(0, 2, 7);
        x.wall();
        x.known(1, 30, 90);
        x.measure(1, 1, 3, 4, true);
        x.mark(25);
        x.step(2, 37);
        x.book(1, 20);
        feed(x, "board 2");
        x.act(0, 2, 5);
    }

    private static void feed(ThreeMeasures x, String text) {
        for (int i = 0; i < text.length(); i++) {
            x.feed(text.charAt(i));
        }
    }

    /** As much of each as there can be, THE TAPE being a ROOM of 100 signs. */
    private static void full(ThreeMeasures x) {
        for (int i = 0; i < 4; i++) {
            Due.read(x, "step 1");
        }
        Due.read(x, "off 2 k=6;wear 1 k=1;board 30");
        for (int i = 0; i < 6; i++) {
            x.stick(6 - i, i, 10 + i);
            x.wall();
            x.known(i, 10 * i, 20 * i);
            x.mark(10 * i + 10);
        }
        x.row(0, 1, 5);
        for (int i = 0; i < 8; i++) {
            x.step(i % 3, 10 + i);
            x.book(i % 6, 10 * i);
        }
        feed(x, "off 1 s=10");
        for (int i = 0; i < 18; i++) {
            feed(x, "|s=10");
        }
        x.act(1, 2, 3);
    }

    private static void nothing(ThreeMeasures x) {
    }

    /** Refused after some, and after full. */
    private static void no(String call, ToLongFunction<ThreeMeasures> asks, long want) {
        Seen.refused(due, call, RefusalsTest::some, asks, want);
        Seen.refused(due, call + ", where all is full", RefusalsTest::full, asks, want);
    }

    private static void no(String call, Consumer<ThreeMeasures> done, ToLongFunction<ThreeMeasures> asks, long want) {
        Seen.refused(due, call, done, asks, want);
    }

    private static void feedAndRoom() {
        no("2: feed(-1)", x -> x.feed(-1), BAD);
        no("2: feed(128)", x -> x.feed(128), BAD);
        no("2: feed, FULL", RefusalsTest::full, x -> x.feed(32), FULL);
        no("2: feed, BAD ahead of FULL", RefusalsTest::full, x -> x.feed(128), BAD);
        no("3: room, FULL", RefusalsTest::full, x -> x.room(), FULL);
        no("3: room, FULL ahead of a FAULT", x -> {
            for (int i = 0; i < 5; i++) {
                Due.read(x, "step 2");
            }
            feed(x, "board 1#");
        }, x -> x.room(), FULL);
        no("3: room, FULL ahead of an empty THE TAPE", x -> {
            for (int i = 0; i < 5; i++) {
                Due.read(x, "step 2");
            }
        }, x -> x.room(), FULL);
        // by a FAULT nothing changes but that THE TAPE is empty
        no("3: a FAULT", x -> Due.read(x, "off 9 s=0;board 3"), x -> Due.read(x, "off 8 s=0;step 1;board 4#"), -34);
        no("3: a FAULT at the size", x -> Due.read(x, "off 9 s=0;board 3"), x -> Due.read(x, "off 8 s=0;"), -20);
        no("3: an empty THE TAPE", RefusalsTest::nothing, x -> x.room(), -10);
    }

    private static void stickAndOf() {
        no("4: KIND -1", x -> x.stick(-1, 0, 2), NONE);
        no("4: KIND 7", x -> x.stick(7, 0, 2), NONE);
        no("4: v -1", x -> x.stick(0, -1, 2), BAD);
        no("4: v 10", x -> x.stick(0, 10, 2), BAD);
        no("4: LONG 1", x -> x.stick(0, 0, 1), BAD);
        no("4: LONG 61", x -> x.stick(0, 0, 61), BAD);
        no("4: NONE ahead of BAD, v", x -> x.stick(7, 10, 2), NONE);
        no("4: NONE ahead of BAD, LONG", x -> x.stick(-1, 0, 1), NONE);
        no("4: FULL", RefusalsTest::full, x -> x.stick(0, 0, 2), FULL);
        no("5: no STICK", RefusalsTest::nothing, x -> x.of(0, 0), NONE);
        no("5: STICK -1", x -> x.of(-1, 0), NONE);
        no("5: STICK 2 of two", RefusalsTest::some, x -> x.of(2, 0), NONE);
        no("5: STICK 6", x -> x.of(6, 0), NONE);
        no("5: what -1", x -> x.of(0, -1), NONE);
        no("5: what 3", x -> x.of(0, 3), NONE);
    }

    private static void row() {
        no("6: no STICK", RefusalsTest::nothing, x -> x.row(0, 0, 0), NONE);
        no("6: STICK -1", x -> x.row(-1, 0, 1), NONE);
        no("6: STICK 2 of two", RefusalsTest::some, x -> x.row(2, 0, 1), NONE);
        no("6: STICK 6", x -> x.row(6, 0, 1), NONE);
        no("6: k -1", x -> x.row(0, -1, 1), NONE);
        no("6: k 4", x -> x.row(0, 4, 1), NONE);
        no("6: n -1", x -> x.row(0, 0, -1), BAD);
        no("6: n 10", x -> x.row(0, 0, 10), BAD);
        no("6: another KIND", x -> x.row(1, 0, 9), STATE);
        no("6: NONE, stick, ahead of BAD", x -> x.row(6, 0, 10), NONE);
        no("6: NONE, k, ahead of BAD", x -> x.row(0, 4, 10), NONE);
        no("6: NONE, k, ahead of STATE", x -> x.row(1, 4, 0), NONE);
        no("6: BAD ahead of STATE", x -> x.row(1, 0, 10), BAD);
        no("6: NONE ahead of BAD and STATE", x -> x.row(1, -1, -1), NONE);
    }

    private static void wallAtKnownTold() {
        no("7: FULL", RefusalsTest::full, x -> x.wall(), FULL);
        no("8: no WALL", RefusalsTest::nothing, x -> x.at(0, 0), NONE);
        no("8: WALL -1", x -> x.at(-1, 0), NONE);
        no("8: WALL 2 of two", RefusalsTest::some, x -> x.at(2, 0), NONE);
        no("8: WALL 6", x -> x.at(6, 0), NONE);
        no("8: what -1", x -> x.at(0, -1), NONE);
        no("8: what 3", x -> x.at(0, 3), NONE);
        no("9: no WALL", RefusalsTest::nothing, x -> x.known(0, 0, 0), NONE);
        no("9: WALL -1", x -> x.known(-1, 0, 0), NONE);
        no("9: WALL 2 of two", RefusalsTest::some, x -> x.known(2, 0, 0), NONE);
        no("9: WALL 6", x -> x.known(6, 0, 0), NONE);
        no("9: LOW -1", x -> x.known(0, -1, 5), BAD);
        no("9: HIGH 1000", x -> x.known(0, 5, 1000), BAD);
        no("9: LOW above HIGH", x -> x.known(0, 6, 5), BAD);
        no("9: both below 0", x -> x.known(0, -2, -1), BAD);
        no("9: both above 999", x -> x.known(0, 1000, 1001), BAD);
        no("9: NONE ahead of BAD", x -> x.known(6, 6, 5), NONE);
        no("10: what -1", x -> x.told(-1), NONE);
        no("10: what 3", x -> x.told(3), NONE);
    }

    private static void measure() {
        no("11: neither", RefusalsTest::nothing, x -> x.measure(0, 0, 1, 0, true), NONE);
        no("11: no STICK", x -> x.wall(), x -> x.measure(0, 0, 1, 0, true), NONE);
        no("11: no WALL", x -> x.stick(0, 0, 10), x -> x.measure(0, 0, 1, 0, true), NONE);
        no("11: WALL -1", x -> x.measure(-1, 0, 1, 0, true), NONE);
        no("11: WALL 2 of two", RefusalsTest::some, x -> x.measure(2, 0, 1, 0, true), NONE);
        no("11: WALL 6", x -> x.measure(6, 0, 1, 0, true), NONE);
        no("11: STICK -1", x -> x.measure(0, -1, 1, 0, true), NONE);
        no("11: STICK 2 of two", RefusalsTest::some, x -> x.measure(0, 2, 1, 0, true), NONE);
        no("11: STICK 6", x -> x.measure(0, 6, 1, 0, true), NONE);
        no("11: n -1", x -> x.measure(0, 0, -1, 0, true), BAD);
        no("11: n 31", x -> x.measure(0, 0, 31, 0, true), BAD);
        no("11: r -1", x -> x.measure(0, 0, 1, -1, true), BAD);
        no("11: r 60", x -> x.measure(0, 0, 1, 60, false), BAD);
        no("11: NONE, wall, ahead of BAD, n", x -> x.measure(6, 0, 31, 0, true), NONE);
        no("11: NONE, wall, ahead of BAD, r", x -> x.measure(6, 0, 1, 60, true), NONE);
        no("11: NONE, stick, ahead of BAD, n", x -> x.measure(0, 6, -1, 0, true), NONE);
        no("11: NONE, stick, ahead of BAD, r", x -> x.measure(0, 6, 1, -1, true), NONE);
        // BAD ahead of STATE: 20 times would be WRONG
        no("11: BAD ahead of STATE, r", RefusalsTest::some, x -> x.measure(1, 1, 20, 60, true), BAD);
        no("11: BAD ahead of STATE, n", RefusalsTest::some, x -> x.measure(1, 1, 31, 0, true), BAD);
    }

    private static void often(ThreeMeasures x, int last) {
        x.wall();
        x.stick(0, 0, 10);
        for (int i = 0; i < 330; i++) {
            x.measure(0, 0, 30, 0, true);
        }
        x.measure(0, 0, last, 0, true);
    }

    private static void measureWrongAndAbove9900() {
        ThreeMeasures x = new ThreeMeasures();
        ThreeMeasures y = new ThreeMeasures();
        some(x);
        some(y);
        due.is("11: WRONG", x.measure(1, 1, 20, 0, true), STATE);
        due.is("11: WRONG by less too", y.measure(1, 1, 20, 0, false), STATE);
        due.is("10: GOES are 20 more all the same", x.told(0), 23);
        due.text("11: WRONG by more or by less is one", Seen.all(x), Seen.all(y));
        ThreeMeasures z = new ThreeMeasures();
        some(z);
        due.is("11: WRONG, none times", z.measure(1, 1, 0, 0, true), STATE);
        ThreeMeasures w = new ThreeMeasures();
        some(w);
        due.text("11: WRONG changes nothing but GOES", Seen.all(z), Seen.all(w));
        no("11: above 9900", a -> often(a, 1), a -> a.measure(0, 0, 30, 0, true), STATE);
        no("11: above 9900, WRONG too", a -> often(a, 1), a -> a.measure(0, 0, 1, 0, true), STATE);
        no("11: above 9900, none times", a -> often(a, 1), a -> a.measure(0, 0, 0, 0, true), STATE);
        no("11: far above 9900", a -> often(a, 30), a -> a.measure(0, 0, 30, 0, true), STATE);
        no("11: NONE ahead of above 9900", a -> often(a, 1), a -> a.measure(1, 0, 30, 0, true), NONE);
        no("11: NONE ahead of above 9900", a -> often(a, 1), a -> a.measure(0, 1, 30, 0, true), NONE);
        no("11: BAD ahead of above 9900", a -> often(a, 1), a -> a.measure(0, 0, 31, 0, true), BAD);
        no("11: BAD ahead of above 9900", a -> often(a, 1), a -> a.measure(0, 0, 1, 60, true), BAD);
    }

    private static void between() {
        no("12: neither", RefusalsTest::nothing, x -> x.between(0, 0, 1, 0), NONE);
        no("12: no STICK", x -> x.wall(), x -> x.between(0, 0, 1, 0), NONE);
        no("12: no WALL", x -> x.stick(0, 0, 10), x -> x.between(0, 0, 1, 0), NONE);
        no("12: STICK -1", x -> x.between(-1, 0, 1, 0), NONE);
        no("12: STICK 2 of two", RefusalsTest::some, x -> x.between(2, 0, 1, 0), NONE);
        no("12: STICK 6", x -> x.between(6, 0, 1, 0), NONE);
        no("12: WALL -1", x -> x.between(0, -1, 1, 0), NONE);
        no("12: WALL 2 of two", RefusalsTest::some, x -> x.between(0, 2, 1, 0), NONE);
        no("12: WALL 6", x -> x.between(0, 6, 1, 0), NONE);
        no("12: what -1", x -> x.between(0, 0, 1, -1), NONE);
        no("12: what 4", x -> x.between(0, 0, 1, 4), NONE);
        no("12: n -1", x -> x.between(0, 0, -1, 0), BAD);
        no("12: n 31", x -> x.between(0, 0, 31, 3), BAD);
        no("12: NONE, stick, ahead of BAD", x -> x.between(6, 0, 31, 0), NONE);
        no("12: NONE, wall, ahead of BAD", x -> x.between(0, 6, 31, 0), NONE);
        no("12: NONE, what, ahead of BAD", x -> x.between(0, 0, 31, 4), NONE);
    }

    private static void surestAndTwice() {
        no("13: no WALL", RefusalsTest::nothing, x -> x.surest(0, 5, 0), NONE);
        no("13: WALL -1", x -> x.surest(-1, 5, 0), NONE);
        no("13: WALL 2 of two", RefusalsTest::some, x -> x.surest(2, 5, 0), NONE);
        no("13: WALL 6", x -> x.surest(6, 5, 0), NONE);
        no("13: what -1", x -> x.surest(0, 5, -1), NONE);
        no("13: what 3", x -> x.surest(0, 5, 3), NONE);
        no("13: length 0", x -> x.surest(0, 0, 0), BAD);
        no("13: length 1000", x -> x.surest(0, 1000, 2), BAD);
        no("13: NONE, wall, ahead of BAD", x -> x.surest(6, 0, 0), NONE);
        no("13: NONE, what, ahead of BAD", x -> x.surest(0, 1000, 3), NONE);
        no("13: BAD ahead of -5", x -> x.wall(), x -> x.surest(0, 0, 0), BAD);
        no("13: NONE ahead of -5", x -> x.wall(), x -> x.surest(0, 1, 3), NONE);
        no("14: no WALL", RefusalsTest::nothing, x -> x.twice(0, 5, 0), NONE);
        no("14: WALL -1", x -> x.twice(-1, 5, 0), NONE);
        no("14: WALL 2 of two", RefusalsTest::some, x -> x.twice(2, 5, 0), NONE);
        no("14: WALL 6", x -> x.twice(6, 5, 0), NONE);
        no("14: what -1", x -> x.twice(0, 5, -1), NONE);
        no("14: what 6", x -> x.twice(0, 5, 6), NONE);
        no("14: length 0", x -> x.twice(0, 0, 0), BAD);
        no("14: length 1000", x -> x.twice(0, 1000, 5), BAD);
        no("14: NONE, wall, ahead of BAD", x -> x.twice(6, 0, 0), NONE);
        no("14: NONE, what, ahead of BAD", x -> x.twice(0, 1000, 6), NONE);
        no("14: BAD ahead of -5", x -> x.wall(), x -> x.twice(0, 0, 0), BAD);
        no("14: NONE ahead of -5", x -> x.wall(), x -> x.twice(0, 1, 6), NONE);
    }

    private static void againAndSquare() {
        no("15: neither", RefusalsTest::nothing, x -> x.again(0, 0, 5), NONE);
        no("15: no STICK", x -> x.wall(), x -> x.again(0, 0, 5), NONE);
        no("15: no WALL", x -> x.stick(0, 0, 10), x -> x.again(0, 0, 5), NONE);
        no("15: WALL -1", x -> x.again(-1, 0, 5), NONE);
        no("15: WALL 6", x -> x.again(6, 0, 5), NONE);
        no("15: STICK -1", x -> x.again(0, -1, 5), NONE);
        no("15: STICK 6", x -> x.again(0, 6, 5), NONE);
        no("15: g -1", x -> x.again(0, 0, -1), BAD);
        no("15: g 1000", x -> x.again(0, 0, 1000), BAD);
        no("15: NONE, wall, ahead of BAD", x -> x.again(6, 0, -1), NONE);
        no("15: NONE, stick, ahead of BAD", x -> x.again(0, 6, 1000), NONE);
        no("16: no WALL", RefusalsTest::nothing, x -> x.square(0, 0, 0), NONE);
        no("16: a -1", x -> x.square(-1, 0, 0), NONE);
        no("16: b -1", x -> x.square(0, -1, 0), NONE);
        no("16: c -1", x -> x.square(0, 0, -1), NONE);
        no("16: a 2 of two", RefusalsTest::some, x -> x.square(2, 0, 1), NONE);
        no("16: b 2 of two", RefusalsTest::some, x -> x.square(0, 2, 1), NONE);
        no("16: c 2 of two", RefusalsTest::some, x -> x.square(0, 1, 2), NONE);
        no("16: a 6", x -> x.square(6, 0, 1), NONE);
        no("16: b 6", x -> x.square(0, 6, 1), NONE);
        no("16: c 6", x -> x.square(0, 1, 6), NONE);
    }

    private static void rounds() {
        no("17: way -2", x -> x.step(-2, 5), NONE);
        no("17: way 4", x -> x.step(4, 5), NONE);
        no("17: length 0", x -> x.step(0, 0), BAD);
        no("17: length 100", x -> x.step(3, 100), BAD);
        no("17: NONE ahead of BAD", x -> x.step(4, 0), NONE);
        no("17: NONE ahead of BAD", x -> x.step(-2, 100), NONE);
        no("17: FULL", RefusalsTest::full, x -> x.step(0, 1), FULL);
        no("18: what -1", x -> x.off(-1), NO_LENGTH);
        no("18: what 2", x -> x.off(2), NO_LENGTH);
        no("19: none", RefusalsTest::nothing, x -> x.closed(0), NO_LENGTH);
        no("19: k -1", x -> x.closed(-1), NO_LENGTH);
        no("19: k 2 of two", RefusalsTest::some, x -> x.closed(2), NO_LENGTH);
        no("19: k 8", x -> x.closed(8), NO_LENGTH);
    }

    private static void cutsAndCups() {
        no("20: no WALL", RefusalsTest::nothing, x -> x.cut(0), NONE);
        no("20: WALL -1", x -> x.cut(-1), NONE);
        no("20: WALL 2 of two", RefusalsTest::some, x -> x.cut(2), NONE);
        no("20: WALL 6", x -> x.cut(6), NONE);
        no("21: no WALL", RefusalsTest::nothing, x -> x.cost(0, 0), NO);
        no("21: WALL -1", x -> x.cost(-1, 0), NO);
        no("21: WALL 2 of two", RefusalsTest::some, x -> x.cost(2, 1), NO);
        no("21: WALL 6", x -> x.cost(6, 0), NO);
        no("21: part -1", x -> x.cost(0, -1), NO);
        no("21: part 2", x -> x.cost(0, 2), NO);
        no("22: a 0", x -> x.cups(0, 1, 1), BAD);
        no("22: a 41", x -> x.cups(41, 1, 1), BAD);
        no("22: b 0", x -> x.cups(1, 0, 1), BAD);
        no("22: b 41", x -> x.cups(1, 41, 1), BAD);
        no("22: wanted -1", x -> x.cups(1, 1, -1), BAD);
        no("22: wanted 41", x -> x.cups(1, 1, 41), BAD);
        no("22: BAD ahead of 0", x -> x.cups(0, 1, 0), BAD);
        no("22: -5", x -> x.cups(2, 4, 3), NEVER);
    }

    private static void marks() {
        no("23: 0", x -> x.mark(0), BAD);
        no("23: -2", x -> x.mark(-2), BAD);
        no("23: 1000", x -> x.mark(1000), BAD);
        no("23: as the one ahead", RefusalsTest::some, x -> x.mark(25), BAD);
        no("23: below the one ahead", RefusalsTest::some, x -> x.mark(24), BAD);
        no("23: FULL", RefusalsTest::full, x -> x.mark(61), FULL);
        no("23: BAD, not above the one ahead, ahead of FULL", RefusalsTest::full, x -> x.mark(60), BAD);
        no("24: no WALL", RefusalsTest::nothing, x -> x.whose(0), NONE);
        no("24: WALL -1", x -> x.whose(-1), NONE);
        no("24: WALL 2 of two", RefusalsTest::some, x -> x.whose(2), NONE);
        no("24: WALL 6", x -> x.whose(6), NONE);
        no("25: no WALL", RefusalsTest::nothing, x -> x.wrong(0), NONE);
        no("25: WALL -1", x -> x.wrong(-1), NONE);
        no("25: WALL 2 of two", RefusalsTest::some, x -> x.wrong(2), NONE);
        no("25: WALL 6", x -> x.wrong(6), NONE);
    }

    private static void oddsAndMean() {
        no("26: no WALL", RefusalsTest::nothing, x -> x.odds(0, 5, 0), NO);
        no("26: WALL -1", x -> x.odds(-1, 5, 0), NO);
        no("26: WALL 2 of two", RefusalsTest::some, x -> x.odds(2, 5, 1), NO);
        no("26: WALL 6", x -> x.odds(6, 5, 0), NO);
        no("26: length -1", x -> x.odds(0, -1, 0), NO);
        no("26: length 1000", x -> x.odds(0, 1000, 1), NO);
        no("26: part -1", x -> x.odds(0, 5, -1), NO);
        no("26: part 2", x -> x.odds(0, 5, 2), NO);
        no("27: no WALL", RefusalsTest::nothing, x -> x.mean(0), NO);
        no("27: no WALL, below", RefusalsTest::nothing, x -> x.mean(1), NO);
        no("27: part -1", x -> x.mean(-1), NO);
        no("27: part 2", x -> x.mean(2), NO);
        no("28: no WALL", RefusalsTest::nothing, x -> x.spread(), NEVER);
    }

    private static void books() {
        no("29: no WALL", RefusalsTest::nothing, x -> x.book(0, 5), NONE);
        no("29: WALL -2", x -> x.book(-2, 5), NONE);
        no("29: WALL 2 of two", RefusalsTest::some, x -> x.book(2, 5), NONE);
        no("29: WALL 6", x -> x.book(6, 5), NONE);
        no("29: length -1", x -> x.book(0, -1), BAD);
        no("29: length 1000", x -> x.book(0, 1000), BAD);
        no("29: NONE ahead of BAD", x -> x.book(6, -1), NONE);
        no("29: NONE ahead of BAD", x -> x.book(-2, 1000), NONE);
        no("29: FULL", RefusalsTest::full, x -> x.book(0, 5), FULL);
        no("30: none", RefusalsTest::nothing, x -> x.looked(), NEVER);
    }

    private static void acts() {
        no("32: i -1", x -> x.trace(-1), NONE);
        no("32: none", RefusalsTest::nothing, x -> x.trace(0), NONE);
        // tells of the TOLD one and of the SAGGING one run 5 bodies each
        no("32: i 5 of 5", x -> x.trace(5), NONE);
        no("32: i 20", x -> x.trace(20), NONE);
        no("33: no STICK", RefusalsTest::nothing, x -> x.as(0, 0), NONE);
        no("33: STICK -1", x -> x.as(-1, 0), NONE);
        no("33: STICK 2 of two", RefusalsTest::some, x -> x.as(2, 0), NONE);
        no("33: STICK 6", x -> x.as(6, 0), NONE);
        no("33: k -1", x -> x.as(0, -1), NONE);
        no("33: k 7", x -> x.as(0, 7), NONE);
        no("33: NONE ahead of -6", x -> x.as(6, 2), NONE);
        no("33: -6", x -> x.as(0, 2), OTHER);
        // an act that is none leaves no TRACE, and all else as it was
        for (int stick = -1; stick <= 6; stick += 7) {
            int none = stick;
            no("31: STICK " + none, RefusalsTest::withoutTrace, x -> x.act(none, 1, 5), 0);
        }
        no("31: act -1", RefusalsTest::withoutTrace, x -> x.act(0, -1, 5), 0);
        no("31: act 3", RefusalsTest::withoutTrace, x -> x.act(0, 3, 5), 0);
        no("31: STICK 2 of two", RefusalsTest::withoutTrace, x -> x.act(2, 0, 5), 0);
        ToLongFunction<ThreeMeasures> noAct = x -> x.act(0, 2, 5) == 0 ? NONE : x.act(0, 3, 5);
        ToLongFunction<ThreeMeasures> noStick = x -> x.act(0, 2, 5) == 0 ? NONE : x.act(2, 1, 5);
        no("31: an act and then none", RefusalsTest::withoutTrace, noAct, 0);
        no("31: an act and then no STICK", RefusalsTest::withoutTrace, noStick, 0);
    }

    private static void withoutTrace(ThreeMeasures x) {
        some(x);
        x.act(-1, 0, 0);
    }

    private static void imageAndCount() {
        no("35: there is none", RefusalsTest::nothing, x -> x.undo(), STATE);
        no("35: there is none, where all is full", RefusalsTest::full, x -> x.undo(), STATE);
        no("36: what -1", x -> x.count(-1), NONE);
        no("36: what 8", x -> x.count(8), NONE);
    }

    /** Each number of each call, far from all that it can be. */
    private static void farNumbers() {
        for (int far : FAR) {
            no("far " + far + ": NONE", RefusalsTest::full, x -> one(x.stick(far, 0, 2), x.of(far, 0), x.of(0, far),
                x.row(far, 0, 1), x.row(0, far, 1), x.at(far, 0), x.at(0, far), x.known(far, 0, 1), x.told(far),
                x.measure(far, 0, 1, 0, true), x.measure(0, far, 1, 0, true), x.between(far, 0, 1, 0),
                x.between(0, far, 1, 0), x.between(0, 0, 1, far), x.surest(far, 5, 0), x.surest(0, 5, far),
                x.twice(far, 5, 0), x.twice(0, 5, far), x.again(far, 0, 5), x.again(0, far, 5), x.square(far, 0, 0),
                x.square(0, far, 0), x.square(0, 0, far), x.step(far, 1), x.cut(far), x.whose(far), x.wrong(far),
                x.book(far, 5), x.trace(far), x.as(far, 0), x.as(0, far), x.count(far)), NONE);
            no("far " + far + ": -1001", RefusalsTest::full, x -> one(x.off(far), x.closed(far)), NO_LENGTH);
            no("far " + far + ": NO", RefusalsTest::full, x -> one(x.cost(far, 0), x.cost(0, far), x.odds(far, 5, 0),
                x.odds(0, 5, far), x.mean(far)), NO);
            no("far " + far + ": no act", RefusalsTest::withoutTrace, x -> one(x.act(far, 0, 5), x.act(0, far, 5)), 0);
        }
        int[] beyond = {Integer.MIN_VALUE, Integer.MIN_VALUE + 1, -1000, -2, 1001, Integer.MAX_VALUE - 1,
            Integer.MAX_VALUE};
        for (int far : beyond) {
            no("beyond, " + far + ": BAD", RefusalsTest::full, x -> one(x.feed(far), x.stick(0, far, 2),
                x.stick(0, 0, far), x.row(0, 0, far), x.known(0, far, 5), x.known(0, 5, far), x.known(0, far, far),
                x.measure(0, 0, far, 0, true), x.measure(0, 0, 1, far, true), x.measure(0, 0, 1, far, false),
                x.between(0, 0, far, 0), x.surest(0, far, 0), x.twice(0, far, 0), x.again(0, 0, far), x.step(0, far),
                x.cups(far, 1, 1), x.cups(1, far, 1), x.cups(1, 1, far), x.mark(far), x.book(0, far)), BAD);
            no("beyond, " + far + ": NO", RefusalsTest::full, x -> one(x.odds(0, far, 0), x.odds(0, far, 1)), NO);
        }
    }

    /** The one answer that all are, or one that none is. */
    private static long one(long... answers) {
        for (long answer : answers) {
            if (answer != answers[0]) {
                return 424242;
            }
        }
        return answers[0];
    }

    /** "All that follows is asked, as things are now, and changes nothing." */
    private static void askingChangesNothing() {
        no("what is asked", x -> {
            for (int i = -1; i < 3; i++) {
                x.of(i, 0);
                x.at(i, 2);
                x.told(i);
                x.between(i, 0, 30, 0);
                x.surest(i, 50, 0);
                x.twice(i, 50, 0);
                x.again(i, 0, 5);
                x.square(i, 0, 1);
                x.off(i);
                x.closed(i);
                x.cut(i);
                x.cost(i, 0);
                x.cups(3, 5, 4 + i);
                x.whose(i);
                x.wrong(i);
                x.odds(i, 150, 0);
                x.mean(i);
                x.spread();
                x.looked();
                x.trace(i);
                x.as(i, 0);
                x.count(i);
            }
            return 0;
        }, 0);
    }
}
