import java.util.function.Predicate;

/** "Terms", part 1, what it says of THE TAPE, ROOMS, CLAUSES and the FAULT: each boundary from both sides. */
public final class RoomEdgesTest {
    private static final int BAD = -2, FULL = -4;
    private static final String DIGITS = "0123456789", FACTOR = "skvlnw!(", TEST = "skvlnw";
    private static final Due due = new Due();

    public static void main(String[] args) {
        bytesOfTheTape();
        aRoomOfHundredBytes();
        tenClauses();
        whatGoesOnInClauses();
        whatGoesOnInConditions();
        whatGoesOnWhenFiveAreOpen();
        everyPlaceOfARoom();
        openTillTheirEnds();
        oddAndEvenNots();
        howConditionsJoin();
        fiveRooms();
        theNewestHolds();
        withoutARoom();
        lastBoardAndStep();
        due.end();
    }

    /** "THE TAPE (bytes, 100 at most)", each 0 .. 127. */
    private static void bytesOfTheTape() {
        ThreeMeasures x = new ThreeMeasures();
        due.is("2: the least sign", x.feed(0), 1);
        due.is("2: below it", x.feed(-1), BAD);
        due.is("2: the greatest sign", x.feed(127), 2);
        due.is("2: above it", x.feed(128), BAD);
        for (int i = 3; i < 100; i++) {
            x.feed('b');
        }
        due.is("2: 99 signs", x.count(6), 99);
        due.is("2: the hundredth", x.feed('b'), 100);
        due.is("2: the one behind it", x.feed('b'), FULL);
        due.is("2: THE TAPE has 100", x.count(6), 100);
        due.is("3: the FAULT of sign 0", x.room(), -10);
        due.is("2: THE TAPE is empty then", x.feed('b'), 1);
    }

    private static void aRoomOfHundredBytes() {
        StringBuilder text = new StringBuilder("off 1 s=10");
        for (int i = 0; i < 18; i++) {
            text.append("|s=1").append(i == 17 ? '0' : '1');
        }
        due.is("3: the text's bytes", text.length(), 100);
        due.reads(text.toString(), 0);
        // ends too early: the FAULT is the size, also when THE TAPE could hold no more
        due.reads(text.substring(0, 99), 0);
        due.reads(text.substring(0, 98), -108);
        due.reads(text.substring(0, 95) + "|!!!!", -110);
        due.reads(text.substring(0, 95) + "|s=1;", -110);
        // the last byte is at fault itself
        due.reads(text.substring(0, 95) + "|s=1#", -109);
        due.reads(text.substring(0, 99) + "#", -109);
    }

    /** "CLAUSES, 10 at most, with ; between". */
    private static void tenClauses() {
        StringBuilder text = new StringBuilder();
        for (int i = 1; i <= 10; i++) {
            text.append(i == 1 ? "" : ";").append("off 9 s=0");
            ThreeMeasures x = due.in(text.toString());
            x.stick(0, 0, 10);
            x.wall();
            due.is("12: SLACK by " + i + " CLAUSES", x.between(0, 0, 1, 3), 1 + 9 * i);
        }
        due.is("3: the size of ten CLAUSES", text.length(), 99);
        due.reads(text + ";", -109);
        String ten = "step 1;step 2;step 3;step 4;step 5;step 6;step 7;step 8;step 9;step 0";
        goesOn(ten, "");
        goesOn(ten.substring(0, ten.length() - 7), DIGITS + ";");
        goesOn(ten.substring(0, ten.length() - 1) + "1", DIGITS);
    }

    /** Behind a text just the bytes of goesOn can follow: each other byte is the FAULT. */
    private static void goesOn(String text, String goesOn) {
        for (int sign = 0; sign < 128; sign++) {
            int answer = Due.read(new ThreeMeasures(), text + (char) sign);
            String call = "3: room() of \"" + text + "\" and the byte " + sign;
            if (goesOn.indexOf(sign) < 0) {
                due.is(call, answer, -10 - text.length());
            } else {
                due.is(call, answer == 0 ? -11 - text.length() : answer, -11 - text.length());
            }
        }
    }

    private static void whatGoesOnInClauses() {
        goesOn("", "bsow");
        String[] words = {"board ", "step ", "off ", "wear "};
        for (String word : words) {
            for (int i = 1; i < word.length(); i++) {
                due.reads(word.substring(0, i), -10 - i);
                goesOn(word.substring(0, i), word.substring(i, i + 1));
            }
            due.reads(word, -10 - word.length());
            goesOn(word, DIGITS);
            String behind = word.equals("board ") || word.equals("step ") ? ";" : " ";
            goesOn(word + "0", behind);
            goesOn(word + "1", DIGITS + behind);
            goesOn(word + "9", DIGITS + behind);
            goesOn(word + "10", behind);
            goesOn(word + "99", behind);
        }
        goesOn("board 1;", "bsow");
        goesOn("off 1 s=1;", "bsow");
        due.reads("board 1;", -18);
        due.reads("board 9", 0);
        due.reads("board 99", 0);
        due.reads("off 0 s=0", 0);
        due.reads("wear 99 s=0", 0);
    }

    private static void whatGoesOnInConditions() {
        goesOn("off 1 ", FACTOR);
        goesOn("wear 10 ", FACTOR);
        for (char letter : TEST.toCharArray()) {
            goesOn("off 1 " + letter, "<=>");
        }
        for (char sign : "<=>".toCharArray()) {
            goesOn("wear 1 k" + sign, DIGITS);
            goesOn("wear 1 k" + sign + "0", "&|;");
            goesOn("wear 1 k" + sign + "1", DIGITS + "&|;");
            goesOn("wear 1 k" + sign + "9", DIGITS + "&|;");
            goesOn("wear 1 k" + sign + "99", "&|;");
        }
        goesOn("off 1 s=0&", FACTOR);
        goesOn("off 1 s=0|", FACTOR);
        goesOn("off 1 !", FACTOR);
        goesOn("off 1 (", FACTOR);
        goesOn("off 1 (s=0", "&|)");
        goesOn("off 1 (s=1", DIGITS + "&|)");
        goesOn("off 1 (s=0&", FACTOR);
        goesOn("off 1 (s=0)", "&|;");
        goesOn("off 1 ((s=0)", "&|)");
        goesOn("off 1 !(s=0)", "&|;");
        goesOn("off 1 (!s=0", "&|)");
    }

    /** "At most 5 of ! and ( are open". */
    private static void whatGoesOnWhenFiveAreOpen() {
        String[] four = {"!!!!", "((((", "!(!(", "(!(!", "!!((", "((!!"};
        for (String open : four) {
            goesOn("off 1 " + open, FACTOR);
            goesOn("off 1 " + open + "!", TEST);
            goesOn("off 1 " + open + "(", TEST);
            goesOn("off 1 s=0&" + open + "(", TEST);
            goesOn("wear 1 s=0|" + open + "!", TEST);
        }
        due.reads("wear 1 !!!!!s=1", 0);
        due.reads("wear 1 !!!!!!s=1", -22);
        due.reads("wear 1 (((((s=1)))))", 0);
        due.reads("wear 1 ((((((s=1))))))", -22);
    }

    /** Each part of a ROOM is one itself or ends too early; a byte that stands nowhere is the FAULT at each place. */
    private static void everyPlaceOfARoom() {
        String[] rooms = {
            "board 40;step 1;off 12 s=0&k>3|!(v<9&l=10);wear 7 (n=0|w=1)&!!s=5",
            "off 9 (((((s=10)))))&!!!!!k=1|!(!(!v=5));step 9;board 0",
            "wear 1 !(s=1|k=2&v=3)|((l>4)&(n<5))|w=6",
        };
        for (String room : rooms) {
            due.reads(room, 0);
            for (int i = 0; i < room.length(); i++) {
                String part = room.substring(0, i);
                boolean isRoom = PlainMeasures.isRoom(part);
                due.reads(part, isRoom ? 0 : -10 - i);
                due.reads(part + '#' + room.substring(i), -10 - i);
                due.reads(part + '#', -10 - i);
            }
        }
    }

    /** "a ( till its ) , a ! till its F ends". */
    private static void openTillTheirEnds() {
        goesOn("off 1 (((((s=0&", TEST);
        goesOn("off 1 (((((s=0|", TEST);
        goesOn("off 1 (((((s=0)&", FACTOR);
        goesOn("off 1 (((((s=0)|!", TEST);
        goesOn("off 1 (((((s=0)|(", TEST);
        goesOn("off 1 !!!!!s=0&", FACTOR);
        goesOn("off 1 !!!!!s=0|!!!!", FACTOR);
        goesOn("off 1 !!!!!s=0|!!!!!", TEST);
        // a ! ahead of a ( is open till the ) behind it
        goesOn("off 1 !(!(s=0&", FACTOR);
        goesOn("off 1 !(!(s=0&!", TEST);
        goesOn("off 1 !(!(s=0&(", TEST);
        goesOn("off 1 !(!(!s=0&", FACTOR);
        goesOn("off 1 !(!(!s=0&!", TEST);
        goesOn("off 1 !(!(s=0)&!", FACTOR);
        goesOn("off 1 !(!(s=0)&!!", FACTOR);
        goesOn("off 1 !(!(s=0)&!!!", TEST);
        goesOn("off 1 !(!(s=0))&!!!!", FACTOR);
        goesOn("off 1 !(!(s=0))&!!!!!", TEST);
        goesOn("off 1 !!(s=0&!!", TEST);
        goesOn("off 1 !!!!(s=0&", TEST);
        goesOn("off 1 !!!!(s=0)&!!!!", FACTOR);
        // nothing is open any more in the next CLAUSE
        goesOn("off 1 !!!!!s=0;wear 1 !!!!", FACTOR);
        goesOn("off 1 (((((s=0)))));wear 1 !!!!!", TEST);
    }

    /** Up to five ! ahead of a TEST, or of what stands in ( and ). */
    private static void oddAndEvenNots() {
        for (int nots = 0; nots <= 5; nots++) {
            boolean isOdd = nots % 2 == 1;
            joins("!".repeat(nots) + "a", t -> t[0] != isOdd);
            joins("!".repeat(nots) + "a&b", t -> t[0] != isOdd && t[1]);
            joins("b|" + "!".repeat(nots) + "a", t -> t[1] || t[0] != isOdd);
        }
        for (int nots = 0; nots <= 4; nots++) {
            boolean isOdd = nots % 2 == 1;
            joins("!".repeat(nots) + "(a&b)", t -> (t[0] && t[1]) != isOdd);
            joins("c&" + "!".repeat(nots) + "(a|b)", t -> t[2] && (t[0] || t[1]) != isOdd);
        }
    }

    /** "E: T, or T|E. T: F, or F&T. F: !F, (E), or a TEST", for each way in which their TESTS can hold. */
    private static void howConditionsJoin() {
        joins("a|b&c", t -> t[0] || t[1] && t[2]);
        joins("a&b|c", t -> t[0] && t[1] || t[2]);
        joins("a&(b|c)", t -> t[0] && (t[1] || t[2]));
        joins("(a|b)&c", t -> (t[0] || t[1]) && t[2]);
        joins("a&b&c&d", t -> t[0] && t[1] && t[2] && t[3]);
        joins("a|b|c|d", t -> t[0] || t[1] || t[2] || t[3]);
        joins("a|b&c|d", t -> t[0] || t[1] && t[2] || t[3]);
        joins("a&b|c&d", t -> t[0] && t[1] || t[2] && t[3]);
        joins("(a|b)&(c|d)", t -> (t[0] || t[1]) && (t[2] || t[3]));
        joins("a&(b|(c&d))", t -> t[0] && (t[1] || t[2] && t[3]));
        joins("a|(b&(c|d))", t -> t[0] || t[1] && (t[2] || t[3]));
        joins("a|(b&c)|d", t -> t[0] || t[1] && t[2] || t[3]);
        joins("a&(b&c|d)", t -> t[0] && (t[1] && t[2] || t[3]));
        joins("!a&b", t -> !t[0] && t[1]);
        joins("!a|b", t -> !t[0] || t[1]);
        joins("a&!b|!c&d", t -> t[0] && !t[1] || !t[2] && t[3]);
        joins("!(a&b)|c", t -> !(t[0] && t[1]) || t[2]);
        joins("a&!(b|c)&d", t -> t[0] && !(t[1] || t[2]) && t[3]);
        joins("!(!(a|b)&!(c&d))", t -> t[0] || t[1] || t[2] && t[3]);
        joins("(((((a|b)&c)|d)))", t -> (t[0] || t[1]) && t[2] || t[3]);
        joins("a&(b|(c&(d|(a&(b|c)))))", t -> t[0] && (t[1] || t[2] && (t[3] || t[0] && (t[1] || t[2]))));
        joins("a|(b&(c|(d&(a|(b&c)))))", t -> t[0] || t[1] && (t[2] || t[3] && (t[0] || t[1] && t[2])));
    }

    /** The letters a .. d stand for TESTS that hold or not: by off and by wear, for the WORN STICK 0 of LONG 20. */
    private static void joins(String form, Predicate<boolean[]> wanted) {
        for (int bits = 0; bits < 16; bits++) {
            boolean[] holds = new boolean[4];
            String text = form;
            for (int i = 0; i < 4; i++) {
                holds[i] = (bits >> i & 1) == 1;
                text = text.replace("abcd".substring(i, i + 1), holds[i] ? "s=0" : "s>0");
            }
            boolean want = wanted.test(holds);
            ThreeMeasures x = due.in("off 5 " + text + ";off 7 s=0");
            x.stick(1, 0, 20);
            x.wall();
            due.is("12: SLACK by off 5 " + text, x.between(0, 0, 1, 3), want ? 13 : 8);
            ThreeMeasures y = due.in("wear 2 s=0;wear 4 " + text);
            y.stick(1, 0, 20);
            y.wall();
            due.is("12: MIDDLE by wear 4 " + text, y.between(0, 0, 1, 2), want ? 14 : 18);
        }
    }

    /** "ROOMS are numbered from 0 on, 5 at most". */
    private static void fiveRooms() {
        ThreeMeasures x = new ThreeMeasures();
        for (int i = 0; i < 5; i++) {
            due.is("3: a FAULT takes no number", Due.read(x, "step 1x"), -16);
            due.is("3: ROOM " + i, Due.read(x, "step " + (i + 2)), i);
            due.is("36: ROOMS", x.count(2), i + 1);
        }
        due.is("3: FULL, with nothing on THE TAPE", x.room(), FULL);
        due.is("3: FULL", Due.read(x, "step 9"), FULL);
        due.is("3: THE TAPE stays", x.count(6), 6);
        due.is("10: the fifth holds", x.told(2), 6);
    }

    /** "the newest one holds"; by a FAULT the one that held holds. */
    private static void theNewestHolds() {
        ThreeMeasures x = new ThreeMeasures();
        x.stick(1, 0, 20);
        x.wall();
        due.is("3: a FAULT", Due.read(x, "off 3 s=0;wear 2 s=0;board 5;step 5;"), -46);
        isHeld(x, 1, 20, 40, 1);
        due.is("3: the first", Due.read(x, "off 3 s=0;wear 2 s=0;board 5;step 6"), 0);
        isHeld(x, 4, 18, 5, 6);
        due.is("3: a FAULT at its end", Due.read(x, "off 4 s=0;wear 3 s=0;board 7;step 8;"), -46);
        isHeld(x, 4, 18, 5, 6);
        due.is("3: an empty THE TAPE is no ROOM", x.room(), -10);
        isHeld(x, 4, 18, 5, 6);
        due.is("3: the second", Due.read(x, "off 1 s=0"), 1);
        isHeld(x, 2, 20, 40, 1);
        due.is("3: the third", Due.read(x, "wear 1 s=0"), 2);
        isHeld(x, 1, 19, 40, 1);
    }

    /** SLACK and MIDDLE of a WORN STICK 0 of LONG 20, BOARD and STEP. */
    private static void isHeld(ThreeMeasures x, int slack, int middle, int board, int step) {
        due.is("12: SLACK", x.between(0, 0, 1, 3), slack);
        due.is("12: MIDDLE", x.between(0, 0, 1, 2), middle);
        due.is("10: BOARD", x.told(1), board);
        due.is("10: STEP", x.told(2), step);
    }

    /** "without one there are no CLAUSES"; "BOARD (40 without), STEP (1 without)". */
    private static void withoutARoom() {
        ThreeMeasures x = new ThreeMeasures();
        x.stick(1, 0, 20);
        x.wall();
        isHeld(x, 1, 20, 40, 1);
        x.known(0, 10, 11);
        due.is("20: by BOARD 40 and STEP 1", x.cut(0), 11);
        due.is("21: by STEP 1", x.cost(0, 0), 1);
        due.is("21: by two", x.cost(0, 1), 2);
        due.is("3: a ROOM", Due.read(x, "board 0;step 9"), 0);
        isHeld(x, 1, 20, 0, 9);
        due.is("20: by BOARD 0", x.cut(0), 10);
    }

    /** "the last n". */
    private static void lastBoardAndStep() {
        isTold("board 1", 1, 1);
        isTold("board 1;board 2", 2, 1);
        isTold("board 99;step 98;board 0;step 0", 0, 0);
        isTold("step 1;step 99", 40, 99);
        isTold("board 10;off 3 s=0;wear 4 s=0", 10, 1);
        isTold("step 1;step 2;step 3;step 4;step 5;step 6;step 7;step 8;step 9;step 10", 40, 10);
    }

    private static void isTold(String room, int board, int step) {
        ThreeMeasures x = due.in(room);
        due.is("10: BOARD of " + room, x.told(1), board);
        due.is("10: STEP of " + room, x.told(2), step);
    }
}
