/** Promises 1 to 12: a new object, feed, room, stick, of, row, wall, at, known, told, measure, between. */
public final class RoomsTest {
    private static final int NONE = -1, BAD = -2, STATE = -3, FULL = -4;
    private static final Due due = new Due();

    public static void main(String[] args) {
        newObject();
        feed();
        roomsAndTheirNumbers();
        faultsOfClauses();
        faultsOfConditions();
        whatIsOpen();
        whatTestsSee();
        howTestsJoin();
        stickAndOf();
        row();
        wallAtKnown();
        told();
        measure();
        between();
        due.end();
    }

    private static void newObject() {
        ThreeMeasures x = new ThreeMeasures();
        for (int what = 0; what < 8; what++) {
            due.is("1: count(" + what + ") of a new object", x.count(what), 0);
        }
        due.is("1: undo() of a new object", x.undo(), STATE);
        due.is("1: told(0)", x.told(0), 0);
        due.is("1: another object has its own STICKS", new ThreeMeasures().stick(0, 0, 2), 0);
        due.is("1: so that this one has none", x.count(0), 0);
    }

    private static void feed() {
        ThreeMeasures x = new ThreeMeasures();
        due.is("2: feed(0)", x.feed(0), 1);
        due.is("2: feed(127)", x.feed(127), 2);
        due.is("2: feed(-1)", x.feed(-1), BAD);
        due.is("2: feed(128)", x.feed(128), BAD);
        due.is("2: feed of the least int", x.feed(Integer.MIN_VALUE), BAD);
        due.is("2: refusals change nothing", x.count(6), 2);
        for (int i = 3; i <= 100; i++) {
            due.is("2: feed, " + i, x.feed(32), i);
        }
        due.is("2: feed when THE TAPE is full", x.feed(32), FULL);
        due.is("2: BAD is told ahead of FULL", x.feed(128), BAD);
        due.is("2: THE TAPE has 100", x.count(6), 100);
    }

    private static void roomsAndTheirNumbers() {
        ThreeMeasures x = new ThreeMeasures();
        due.is("3: the first", Due.read(x, "board 7"), 0);
        due.is("3: THE TAPE is empty then", x.count(6), 0);
        due.is("3: a FAULT", Due.read(x, "board 8x"), -17);
        due.is("3: THE TAPE is empty then too", x.count(6), 0);
        due.is("3: the one that held holds", x.told(1), 7);
        due.is("3: a FAULT is no ROOM", x.count(2), 1);
        due.is("3: the second", Due.read(x, "step 3"), 1);
        due.is("3: the newest one holds", x.told(1), 40);
        due.is("3: the newest one's STEP", x.told(2), 3);
        for (int i = 2; i < 5; i++) {
            due.is("3: one more", Due.read(x, "board 9"), i);
        }
        due.is("3: FULL", Due.read(x, "board 6"), FULL);
        due.is("3: THE TAPE stays", x.count(6), 7);
        due.is("3: FULL ahead of a FAULT", Due.read(x, "x"), FULL);
        due.is("3: THE TAPE stays", x.count(6), 8);
        due.is("3: the fifth one holds", x.told(1), 9);
    }

    private static void faultsOfClauses() {
        due.reads("", -10);
        due.reads("b", -11);
        due.reads("x", -10);
        due.reads(" board 1", -10);
        due.reads("Board 1", -10);
        due.reads("boart 1", -14);
        due.reads("board", -15);
        due.reads("board ", -16);
        due.reads("board  1", -16);
        due.reads("board1", -15);
        due.reads("board 0", 0);
        due.reads("board 00", -17);
        due.reads("board 01", -17);
        due.reads("board 10", 0);
        due.reads("board 99", 0);
        due.reads("board 100", -18);
        due.reads("board -1", -16);
        due.reads("board 1 ", -17);
        due.reads("board 1 s=1", -17);
        due.reads("board 1;", -18);
        due.reads("board 1;;", -18);
        due.reads("board 1; step 1", -18);
        due.reads("board 1;step 1", 0);
        due.reads(";board 1", -10);
        due.reads("step 5;off 2 s=1;wear 3 k>4;board 50", 0);
        due.reads("stop 1", -12);
        due.reads("off", -13);
        due.reads("of f", -12);
        due.reads("off 5", -15);
        due.reads("off 5;", -15);
        due.reads("off 5  s=1", -16);
        due.reads("off 5 ", -16);
        due.reads("wear 12 s=1", 0);
        due.reads("wear 123 s=1", -17);
        due.reads("wears 1 s=1", -14);
        due.reads("board 1\u0000", -17);
        due.reads("board /", -16);
        due.reads("board :", -16);
        due.reads("board 1/", -17);
        due.reads("board 1:", -17);
        String ten = "step 1;step 2;step 3;step 4;step 5;step 6;step 7;step 8;step 9;step 10";
        due.reads(ten, 0);
        due.reads(ten + ";", -10 - ten.length());
        due.reads(ten + ";step 11", -10 - ten.length());
        due.reads(ten + "1", -10 - ten.length());
        StringBuilder hundred = new StringBuilder("off 1 s=12");
        while (hundred.length() < 100) {
            hundred.append("&s=11");
        }
        due.is("3: that text has 100 signs", hundred.length(), 100);
        due.reads(hundred.toString(), 0);
        due.reads(hundred.substring(0, 98) + "1&", -110);
    }

    private static void faultsOfConditions() {
        due.reads("off 1 s", -17);
        due.reads("off 1 s=", -18);
        due.reads("off 1 x=1", -16);
        due.reads("off 1 S=1", -16);
        due.reads("off 1 s!1", -17);
        due.reads("off 1 s<=1", -18);
        due.reads("off 1 s==1", -18);
        due.reads("off 1 s =1", -17);
        due.reads("off 1 s= 1", -18);
        due.reads("off 1 s=0", 0);
        due.reads("off 1 s=05", -19);
        due.reads("off 1 s=99", 0);
        due.reads("off 1 s=100", -20);
        due.reads("off 1 s=1 ", -19);
        due.reads("off 1 s=1&", -20);
        due.reads("off 1 s=1|", -20);
        due.reads("off 1 s=1||s=2", -20);
        due.reads("off 1 s=1&|s=2", -20);
        due.reads("off 1 s=1s=2", -19);
        due.reads("off 1 &s=1", -16);
        due.reads("off 1 s=1)", -19);
        due.reads("off 1 ()", -17);
        due.reads("off 1 (s=1", -20);
        due.reads("off 1 (s=1;", -20);
        due.reads("off 1 (s=1))", -21);
        due.reads("off 1 (s=1)(", -21);
        due.reads("off 1 (s=1)s=1", -21);
        due.reads("off 1 !", -17);
        due.reads("off 1 !&", -17);
        due.reads("off 1 s=1!", -19);
        due.reads("off 1 1=s", -16);
        due.reads("off 1 s=1|k=2&v>3|!l<4&(n=5|!w=0)", 0);
    }

    private static void whatIsOpen() {
        due.reads("off 1 !!!!!s=1", 0);
        due.reads("off 1 !!!!!!s=1", -21);
        due.reads("off 1 (((((s=1)))))", 0);
        due.reads("off 1 ((((((s=1))))))", -21);
        due.reads("off 1 !(!(!s=1))", 0);
        due.reads("off 1 !(!(!!s=1))", -21);
        due.reads("off 1 !(!(!s=1&!s=2))", 0);
        due.reads("off 1 !(!(!s=1&(s=2)))", 0);
        due.reads("off 1 !(!(!s=1&!!s=2))", -26);
        due.reads("off 1 !!!!!s=1&!!!!!s=2|(((((s=3)))))", 0);
        due.reads("off 1 (((((s=1&!s=2)))))", -25);
        due.reads("off 1 ((((!s=1|(s=2)))))", 0);
        due.reads("off 1 ((((!(s=1)))))", -21);
        due.reads("off 1 !!!!!s=1;wear 1 !!!!!s=1", 0);
    }

    /** How much SLACK there is more for a STICK 2 of kind 4, v 7, LONG 59, set on 13 times at WALL 1, by off 50 E. */
    private static void holds(String test, boolean wanted) {
        ThreeMeasures x = due.in("off 50 " + test);
        x.stick(0, 0, 2);
        x.stick(0, 0, 2);
        x.stick(4, 7, 59);
        x.wall();
        x.wall();
        due.is("12: SLACK by off 50 " + test, x.between(2, 1, 13, 3), wanted ? 52 : 2);
    }

    private static void whatTestsSee() {
        String[] equal = {"s=2", "k=4", "v=7", "l=5", "n=3", "w=1"};
        for (String test : equal) {
            int value = test.charAt(2) - '0';
            holds(test, true);
            holds(test.charAt(0) + ">" + (value - 1), true);
            holds(test.charAt(0) + ">" + value, false);
            holds(test.charAt(0) + "<" + (value + 1), true);
            holds(test.charAt(0) + "<" + value, false);
            holds(test.charAt(0) + "=" + (value + 1), false);
            holds(test.charAt(0) + "=" + value + "0", false);
        }
        holds("n=13", false);
        holds("l<99", true);
        ThreeMeasures x = due.in("off 5 l=5;off 20 l<5");
        x.stick(0, 0, 50);
        x.stick(0, 0, 49);
        x.wall();
        due.is("12: l of 50", x.between(0, 0, 1, 3), 6);
        due.is("12: l of 49, cut", x.between(1, 0, 1, 3), 21);
    }

    private static void howTestsJoin() {
        holds("s=2&k=4", true);
        holds("s=2&k=3", false);
        holds("s=1&k=4", false);
        holds("s=2|k=3", true);
        holds("s=1|k=4", true);
        holds("s=1|k=3", false);
        holds("s=2|k=4&v=0", true);
        holds("s=1&k=4|v=7", true);
        holds("(s=2|k=4)&v=0", false);
        holds("s=1&(k=4|v=7)", false);
        holds("!s=1", true);
        holds("!s=2", false);
        holds("!!s=2", true);
        holds("!s=1&k=3", false);
        holds("!(s=1&k=3)", true);
        holds("!s=2|k=4", true);
        holds("!(s=2|k=4)", false);
        holds("!s=1&!k=3&!v=0", true);
        holds("s=1|s=1|s=1|s=2", true);
        holds("s=2&s=2&s=2&s=1", false);
        holds("s=1&s=2|s=2&k=4|s=1", true);
        holds("(s=1|(s=1|(s=1|(s=1|(s=2)))))", true);
        ThreeMeasures x = due.in("off 3 s=0;off 20 s=0;off 40 s=1;wear 5 s=0;off 7 k<9");
        x.stick(0, 0, 30);
        x.wall();
        due.is("12: the n of all off whose E holds", x.between(0, 0, 1, 3), 31);
        due.is("3: another ROOM", Due.read(x, "off 4 s<9"), 1);
        due.is("12: only the newest one's", x.between(0, 0, 1, 3), 5);
        due.is("3: a FAULT behind an off", Due.read(x, "off 5 s<9;off 6 s<9;x"), -30);
        due.is("12: the one that held holds", x.between(0, 0, 1, 3), 5);
        due.is("3: another ROOM", Due.read(x, "step 2"), 2);
        due.is("12: no off", x.between(0, 0, 1, 3), 1);
    }

    private static void stickAndOf() {
        ThreeMeasures x = new ThreeMeasures();
        due.is("4: a KIND too few", x.stick(-1, 0, 2), NONE);
        due.is("4: a KIND too many", x.stick(7, 0, 2), NONE);
        due.is("4: NONE ahead of BAD", x.stick(7, 10, 61), NONE);
        due.is("4: v too little", x.stick(0, -1, 2), BAD);
        due.is("4: v too much", x.stick(0, 10, 2), BAD);
        due.is("4: too short", x.stick(0, 0, 1), BAD);
        due.is("4: too long", x.stick(0, 0, 61), BAD);
        due.is("4: nothing came", x.count(0), 0);
        due.is("4: the first", x.stick(6, 9, 60), 0);
        due.is("4: the second", x.stick(0, 0, 2), 1);
        for (int i = 2; i < 6; i++) {
            due.is("4: one more", x.stick(i - 1, i, 10 * i), i);
        }
        due.is("4: FULL", x.stick(0, 0, 2), FULL);
        due.is("4: BAD ahead of FULL", x.stick(0, 0, 1), BAD);
        due.is("4: NONE ahead of FULL", x.stick(7, 0, 2), NONE);
        due.is("5: KIND", x.of(0, 0), 6);
        due.is("5: v", x.of(0, 1), 9);
        due.is("5: LONG", x.of(0, 2), 60);
        due.is("5: KIND", x.of(5, 0), 4);
        due.is("5: v", x.of(5, 1), 5);
        due.is("5: LONG", x.of(5, 2), 50);
        due.is("5: no such STICK", x.of(6, 0), NONE);
        due.is("5: no such STICK", x.of(-1, 0), NONE);
        due.is("5: no such what", x.of(0, 3), NONE);
        due.is("5: no such what", x.of(0, -1), NONE);
        due.is("5: none yet", new ThreeMeasures().of(0, 0), NONE);
    }

    private static void row() {
        ThreeMeasures x = new ThreeMeasures();
        due.is("6: no STICK", x.row(0, 0, 0), NONE);
        x.stick(6, 1, 10);
        x.stick(3, 1, 10);
        x.stick(6, 1, 10);
        x.wall();
        due.is("6: 0 at first", x.row(0, 3, 9), 0);
        due.is("6: what it was", x.row(0, 3, 4), 9);
        due.is("6: of times modulo 4", x.between(0, 0, 7, 2), 74);
        due.is("6: of other times", x.between(0, 0, 8, 2), 80);
        due.is("6: of another TOLD one", x.between(2, 0, 7, 2), 70);
        due.is("6: its own row", x.row(2, 3, 0), 0);
        due.is("6: no such k", x.row(0, 4, 0), NONE);
        due.is("6: no such k", x.row(0, -1, 0), NONE);
        due.is("6: NONE ahead of BAD", x.row(0, 4, 10), NONE);
        due.is("6: NONE ahead of STATE", x.row(1, 4, 0), NONE);
        due.is("6: n too much", x.row(0, 0, 10), BAD);
        due.is("6: n too little", x.row(0, 0, -1), BAD);
        due.is("6: BAD ahead of STATE", x.row(1, 0, 10), BAD);
        due.is("6: another KIND", x.row(1, 0, 9), STATE);
        due.is("6: nothing changed", x.row(0, 0, 0), 0);
    }

    private static void wallAtKnown() {
        ThreeMeasures x = new ThreeMeasures();
        due.is("8: no WALL", x.at(0, 0), NONE);
        due.is("9: no WALL", x.known(0, 0, 0), NONE);
        for (int i = 0; i < 6; i++) {
            due.is("7: a WALL", x.wall(), i);
        }
        due.is("7: FULL", x.wall(), FULL);
        due.is("7: six", x.count(1), 6);
        due.is("8: LOW", x.at(5, 0), 0);
        due.is("8: HIGH", x.at(5, 1), 999);
        due.is("8: GAP", x.at(5, 2), 999);
        due.is("8: no such WALL", x.at(6, 0), NONE);
        due.is("8: no such WALL", x.at(-1, 0), NONE);
        due.is("8: no such what", x.at(0, 3), NONE);
        due.is("8: no such what", x.at(0, -1), NONE);
        due.is("9: GAP as it was", x.known(5, 10, 30), 999);
        due.is("9: GAP as it was", x.known(5, 0, 999), 20);
        due.is("9: one length", x.known(5, 999, 999), 999);
        due.is("8: LOW", x.at(5, 0), 999);
        due.is("8: HIGH", x.at(5, 1), 999);
        due.is("8: GAP", x.at(5, 2), 0);
        due.is("9: below 0", x.known(5, -1, 5), BAD);
        due.is("9: above 999", x.known(5, 5, 1000), BAD);
        due.is("9: LOW above HIGH", x.known(5, 6, 5), BAD);
        due.is("9: NONE ahead of BAD", x.known(6, 6, 5), NONE);
        due.is("9: nothing changed", x.at(5, 0), 999);
        due.is("9: other WALLS stay", x.at(4, 2), 999);
    }

    private static void told() {
        ThreeMeasures x = new ThreeMeasures();
        due.is("10: BOARD without a ROOM", x.told(1), 40);
        due.is("10: STEP without a ROOM", x.told(2), 1);
        due.is("10: no such what", x.told(3), NONE);
        due.is("10: no such what", x.told(-1), NONE);
        Due.read(x, "board 1;step 2;board 30;step 45");
        due.is("10: the last BOARD", x.told(1), 30);
        due.is("10: the last STEP", x.told(2), 45);
        Due.read(x, "off 9 s=0");
        due.is("10: BOARD of a ROOM without one", x.told(1), 40);
        due.is("10: STEP of a ROOM without one", x.told(2), 1);
        Due.read(x, "board 0;step 0");
        due.is("10: BOARD 0", x.told(1), 0);
        due.is("10: STEP 0", x.told(2), 0);
    }

    private static void measure() {
        ThreeMeasures x = new ThreeMeasures();
        due.is("11: nothing to measure", x.measure(0, 0, 1, 0, true), NONE);
        x.wall();
        due.is("11: no STICK", x.measure(0, 0, 1, 0, true), NONE);
        x.stick(0, 0, 10);
        due.is("11: no such WALL", x.measure(1, 0, 1, 0, true), NONE);
        due.is("11: no such WALL", x.measure(-1, 0, 1, 0, true), NONE);
        due.is("11: no such STICK", x.measure(0, -1, 1, 0, true), NONE);
        due.is("11: NONE ahead of BAD", x.measure(0, 1, 31, 60, true), NONE);
        due.is("11: n too much", x.measure(0, 0, 31, 0, true), BAD);
        due.is("11: n too little", x.measure(0, 0, -1, 0, true), BAD);
        due.is("11: r too much", x.measure(0, 0, 1, 60, true), BAD);
        due.is("11: r too little", x.measure(0, 0, 1, -1, true), BAD);
        due.is("11: GOES stay", x.told(0), 0);
        due.is("11: 18 .. 22, 5 more", x.measure(0, 0, 2, 5, true), 4);
        due.is("11: LOW", x.at(0, 0), 23);
        due.is("11: HIGH", x.at(0, 1), 27);
        due.is("11: GOES", x.told(0), 2);
        due.is("11: 27 .. 33, 1 less: 26 .. 27", x.measure(0, 0, 3, 1, false), 1);
        due.is("11: LOW", x.at(0, 0), 26);
        due.is("11: HIGH", x.at(0, 1), 27);
        due.is("11: 27 .. 33, 0 less: 27", x.measure(0, 0, 3, 0, false), 0);
        due.is("11: GOES", x.told(0), 8);
        due.is("11: 27 .. 33, 1 more: WRONG", x.measure(0, 0, 3, 1, true), STATE);
        due.is("11: GOES are more all the same", x.told(0), 11);
        due.is("11: LOW stays", x.at(0, 0), 27);
        due.is("11: HIGH stays", x.at(0, 1), 27);
        due.is("11: GAP stays", x.at(0, 2), 0);
        x.wall();
        due.is("11: 9 .. 11, 59 less: 0 each", x.measure(1, 0, 1, 59, false), 0);
        due.is("11: LOW", x.at(1, 0), 0);
        due.is("11: HIGH", x.at(1, 1), 0);
        due.is("11: n 0 by the REST alone", x.measure(1, 0, 0, 0, true), 0);
        x.wall();
        due.is("11: n 0 and r 59", x.measure(2, 0, 0, 59, true), 0);
        due.is("11: LOW", x.at(2, 0), 59);
        x.wall();
        due.is("11: what is below 0 counts as 0: 9 .. 11, 10 less: 0 .. 1", x.measure(3, 0, 1, 10, false), 1);
        goesAbove9900();
    }

    private static void goesAbove9900() {
        ThreeMeasures x = new ThreeMeasures();
        x.wall();
        x.stick(0, 0, 10);
        for (int i = 1; i <= 330; i++) {
            due.is("11: " + i + " times 30", x.measure(0, 0, 30, 0, true), 60);
        }
        due.is("11: GOES 9900", x.told(0), 9900);
        x.wall();
        due.is("11: 9900 is not above 9900", x.measure(1, 0, 1, 0, true), 2);
        due.is("11: GOES 9901", x.told(0), 9901);
        due.is("11: above 9900", x.measure(1, 0, 1, 1, true), STATE);
        due.is("11: BAD ahead of that", x.measure(0, 0, 31, 0, true), BAD);
        due.is("11: NONE ahead of that", x.measure(2, 0, 31, 0, true), NONE);
        due.is("11: nothing changes", x.told(0), 9901);
        due.is("11: LOW stays", x.at(1, 0), 9);
        due.is("11: known and between go on", x.between(0, 0, 1, 2), 10);
    }

    /** LEAST, MOST, MIDDLE, SLACK of a STICK. */
    private static void tells(ThreeMeasures x, int stick, int n, int least, int most, int middle, int slack) {
        String call = "12: between(" + stick + ", 0, " + n + ", ";
        due.is(call + "0)", x.between(stick, 0, n, 0), least);
        due.is(call + "1)", x.between(stick, 0, n, 1), most);
        due.is(call + "2)", x.between(stick, 0, n, 2), middle);
        due.is(call + "3)", x.between(stick, 0, n, 3), slack);
    }

    private static void between() {
        ThreeMeasures x = due.in("wear 2 n<9;wear 3 n=4;wear 60 n=6;off 4 n=5");
        x.wall();
        x.stick(0, 9, 20);
        x.stick(1, 9, 20);
        x.stick(2, 9, 8);
        x.stick(3, 9, 20);
        x.stick(4, 9, 20);
        x.stick(5, 9, 2);
        tells(x, 0, 0, 0, 0, 0, 1);
        tells(x, 0, 4, 76, 84, 80, 1);
        tells(x, 0, 5, 75, 125, 100, 5);
        tells(x, 0, 30, 570, 630, 600, 1);
        tells(x, 1, 2, 34, 38, 36, 1);
        tells(x, 1, 4, 56, 64, 60, 1);
        tells(x, 1, 6, 0, 6, 0, 1);
        tells(x, 1, 9, 171, 189, 180, 1);
        tells(x, 2, 0, 0, 0, 0, 1);
        tells(x, 2, 1, 0, 1, 0, 1);
        tells(x, 2, 2, 5, 9, 7, 1);
        tells(x, 3, 2, 20, 60, 40, 10);
        tells(x, 3, 1, 10, 30, 20, 10);
        tells(x, 3, 5, 30, 170, 100, 14);
        tells(x, 4, 4, 52, 68, 60, 2);
        tells(x, 5, 3, 0, 3, 0, 1);
        ThreeMeasures y = new ThreeMeasures();
        y.wall();
        y.stick(5, 3, 40);
        y.stick(6, 4, 10);
        y.stick(4, 0, 10);
        y.row(1, 0, 5);
        y.row(1, 1, 9);
        tells(y, 0, 1, 38, 40, 39, 1);
        tells(y, 0, 3, 113, 119, 116, 1);
        tells(y, 0, 0, 0, 0, 0, 1);
        tells(y, 1, 0, 5, 5, 5, 5);
        tells(y, 1, 5, 34, 84, 59, 5);
        tells(y, 1, 4, 25, 65, 45, 5);
        tells(y, 2, 1, 8, 12, 10, 2);
        y.stick(2, 3, 10);
        tells(y, 3, 1, 6, 8, 7, 1);
        tells(y, 3, 30, 267, 327, 297, 1);
        due.is("12: no such STICK", x.between(6, 0, 1, 0), NONE);
        due.is("12: no such STICK", x.between(-1, 0, 1, 0), NONE);
        due.is("12: no such WALL", x.between(0, 1, 1, 0), NONE);
        due.is("12: no such WALL", x.between(0, -1, 1, 0), NONE);
        due.is("12: no such what", x.between(0, 0, 1, 4), NONE);
        due.is("12: no such what", x.between(0, 0, 1, -1), NONE);
        due.is("12: NONE ahead of BAD", x.between(0, 0, 31, 4), NONE);
        due.is("12: n too much", x.between(0, 0, 31, 0), BAD);
        due.is("12: n too little", x.between(0, 0, -1, 0), BAD);
        due.is("12: it changes nothing", x.told(0), 0);
    }
}
