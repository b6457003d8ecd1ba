/** Promises 23 to 30: mark, whose, wrong, odds, mean, spread, book, looked. */
public final class MarksTest {
    private static final int NONE = -1, BAD = -2, FULL = -4, NEVER = -5;
    private static final long NO = Long.MIN_VALUE;
    private static final Due due = new Due();

    public static void main(String[] args) {
        mark();
        whose();
        whoseInARoom();
        wrong();
        odds();
        mean();
        spread();
        book();
        looked();
        due.end();
    }

    private static void mark() {
        ThreeMeasures x = new ThreeMeasures();
        due.is("23: 0 is no place", x.mark(0), BAD);
        due.is("23: below -1", x.mark(-2), BAD);
        due.is("23: above 999", x.mark(1000), BAD);
        due.is("23: the first", x.mark(1), 1);
        due.is("23: not above the one ahead", x.mark(1), BAD);
        due.is("23: the second", x.mark(2), 2);
        due.is("23: below the one ahead", x.mark(1), BAD);
        for (int i = 3; i <= 6; i++) {
            due.is("23: rising", x.mark(i * 100), i);
        }
        due.is("23: FULL", x.mark(999), FULL);
        due.is("23: BAD ahead of FULL", x.mark(600), BAD);
        due.is("23: BAD ahead of FULL", x.mark(1000), BAD);
        due.is("23: six", x.count(4), 6);
        due.is("23: none then", x.mark(-1), 0);
        due.is("23: none", x.count(4), 0);
        due.is("23: 999 as the first", x.mark(999), 1);
        due.is("23: nothing is above it", x.mark(1000), BAD);
        due.is("23: also when FULL none then", x.mark(-1), 0);
    }

    private static void marks(ThreeMeasures x, int... places) {
        due.is("23: none then", x.mark(-1), 0);
        for (int i = 0; i < places.length; i++) {
            due.is("23: mark(" + places[i] + ")", x.mark(places[i]), i + 1);
        }
    }

    private static void whose() {
        ThreeMeasures x = new ThreeMeasures();
        due.is("24: no WALL", x.whose(0), NONE);
        x.wall();
        due.is("24: no STICK", x.whose(0), 0);
        x.stick(0, 0, 10);
        x.stick(0, 0, 12);
        x.stick(3, 3, 11);
        due.is("24: no MARK: all", x.whose(0), 7);
        due.is("24: no such WALL", x.whose(1), NONE);
        due.is("24: no such WALL", x.whose(-1), NONE);
        marks(x, 11);
        due.is("24: between all", x.whose(0), 7);
        marks(x, 9);
        due.is("24: LEAST too", x.whose(0), 5);
        marks(x, 13);
        due.is("24: MOST too", x.whose(0), 6);
        marks(x, 8);
        due.is("24: the PACE", x.whose(0), 4);
        marks(x, 16);
        due.is("24: none", x.whose(0), 0);
        marks(x, 11, 21, 31);
        due.is("24: 11, 21, 31", x.whose(0), 5);
        marks(x, 11, 22, 33);
        due.is("24: 11, 22, 33", x.whose(0), 7);
        marks(x, 11, 22, 40);
        due.is("24: 11, 22, 40", x.whose(0), 4);
        marks(x, 11, 12, 33);
        due.is("24: one does not lie so", x.whose(0), 0);
    }

    private static void whoseInARoom() {
        ThreeMeasures x = due.in("off 5 w=1&n=1;off 9 n=3");
        x.wall();
        x.wall();
        x.stick(0, 0, 20);
        marks(x, 15);
        due.is("24: at WALL 0", x.whose(0), 0);
        due.is("24: at WALL 1", x.whose(1), 1);
        marks(x, 20, 40, 90);
        due.is("24: the third is off by 30", x.whose(0), 1);
        marks(x, 20, 43, 90);
        due.is("24: the second by 2", x.whose(0), 0);
    }

    private static void wrong() {
        ThreeMeasures x = new ThreeMeasures();
        due.is("25: no WALL", x.wrong(0), NONE);
        x.wall();
        marks(x, 10);
        due.is("25: no STICK", x.wrong(0), NEVER);
        x.stick(0, 0, 10);
        x.stick(0, 0, 30);
        due.is("25: there is one", x.wrong(0), NEVER);
        due.is("25: no such WALL", x.wrong(1), NONE);
        due.is("25: no such WALL", x.wrong(-1), NONE);
        marks(x);
        due.is("25: no MARK", x.wrong(0), NEVER);
        marks(x, 500);
        due.is("25: the only one", x.wrong(0), 0);
        marks(x, 5, 20, 30);
        due.is("25: the first", x.wrong(0), 0);
        marks(x, 10, 25, 30);
        due.is("25: all others keep how often they stand for", x.wrong(0), 1);
        marks(x, 10, 20, 30, 45);
        due.is("25: the last", x.wrong(0), 3);
        marks(x, 5, 15, 30);
        due.is("25: two are wrong", x.wrong(0), NEVER);
        marks(x, 10, 60);
        due.is("25: of two the first, by another STICK", x.wrong(0), 0);
        marks(x, 10, 90);
        due.is("25: the second", x.wrong(0), 1);
        marks(x, 10, 30, 40);
        due.is("25: not by moving up", x.wrong(0), NEVER);
    }

    private static void isOdds(ThreeMeasures x, int length, long above, long below) {
        due.is("26: odds(0, " + length + ", 0)", x.odds(0, length, 0), above);
        due.is("26: odds(0, " + length + ", 1)", x.odds(0, length, 1), below);
    }

    private static void odds() {
        ThreeMeasures x = new ThreeMeasures();
        due.is("26: no WALL", x.odds(0, 1, 0), NO);
        x.wall();
        isOdds(x, 0, 1, 1000);
        isOdds(x, 999, 1, 1);
        isOdds(x, 749, 3, 4);
        x.known(0, 20, 29);
        isOdds(x, 0, 0, 1);
        isOdds(x, 19, 0, 1);
        isOdds(x, 20, 1, 10);
        isOdds(x, 21, 1, 5);
        isOdds(x, 28, 9, 10);
        isOdds(x, 29, 1, 1);
        isOdds(x, 999, 1, 1);
        due.is("26: no such WALL", x.odds(1, 1, 0), NO);
        due.is("26: no such WALL", x.odds(-1, 1, 0), NO);
        due.is("26: length too little", x.odds(0, -1, 0), NO);
        due.is("26: length too much", x.odds(0, 1000, 0), NO);
        due.is("26: no such part", x.odds(0, 1, 2), NO);
        due.is("26: no such part", x.odds(0, 1, -1), NO);
    }

    private static void mean() {
        ThreeMeasures x = new ThreeMeasures();
        due.is("27: none", x.mean(0), NO);
        due.is("27: none", x.mean(1), NO);
        x.wall();
        due.is("27: above", x.mean(0), 999);
        due.is("27: below", x.mean(1), 2);
        x.known(0, 0, 0);
        due.is("27: above", x.mean(0), 0);
        due.is("27: below", x.mean(1), 1);
        x.known(0, 4, 6);
        due.is("27: above", x.mean(0), 5);
        due.is("27: below", x.mean(1), 1);
        x.wall();
        x.known(1, 7, 8);
        x.wall();
        x.known(2, 1, 1);
        // 10 and 15 and 2 by 6: 27 by 6
        due.is("27: above", x.mean(0), 9);
        due.is("27: below", x.mean(1), 2);
        due.is("27: no such part", x.mean(2), NO);
        due.is("27: no such part", x.mean(-1), NO);
    }

    private static void spread() {
        ThreeMeasures x = new ThreeMeasures();
        due.is("28: none", x.spread(), NEVER);
        x.wall();
        x.wall();
        x.wall();
        due.is("28: of several the first", x.spread(), 0);
        x.known(0, 1, 999);
        due.is("28: the next", x.spread(), 1);
        x.known(1, 500, 510);
        x.known(2, 500, 510);
        x.known(0, 5, 5);
        due.is("28: of two the first", x.spread(), 1);
        x.known(1, 5, 5);
        due.is("28: the last", x.spread(), 2);
        x.known(2, 7, 7);
        due.is("28: no GAP", x.spread(), 0);
    }

    private static void book() {
        ThreeMeasures x = new ThreeMeasures();
        due.is("29: no WALL", x.book(0, 1), NONE);
        due.is("29: none then", x.book(-1, 1), 0);
        x.wall();
        due.is("29: no such WALL", x.book(1, 1), NONE);
        due.is("29: no such WALL", x.book(-2, 1), NONE);
        due.is("29: NONE ahead of BAD", x.book(1, 1000), NONE);
        due.is("29: length too little", x.book(0, -1), BAD);
        due.is("29: length too much", x.book(0, 1000), BAD);
        due.is("29: none came", x.count(5), 0);
        for (int i = 1; i <= 8; i++) {
            due.is("29: one more", x.book(0, i == 1 ? 0 : 999), i);
        }
        due.is("29: FULL", x.book(0, 0), FULL);
        due.is("29: BAD ahead of FULL", x.book(0, -1), BAD);
        due.is("29: NONE ahead of FULL", x.book(1, 0), NONE);
        due.is("29: eight", x.count(5), 8);
        due.is("29: none then, whatever the length is", x.book(-1, -500), 0);
        due.is("29: none", x.count(5), 0);
        due.is("29: the first again", x.book(0, 5), 1);
    }

    private static void looked() {
        ThreeMeasures x = new ThreeMeasures();
        due.is("30: none", x.looked(), NEVER);
        x.wall();
        x.wall();
        x.known(0, 10, 20);
        x.known(1, 30, 40);
        x.book(0, 10);
        x.book(0, 20);
        x.book(1, 30);
        x.book(1, 40);
        due.is("30: all lie between", x.looked(), NEVER);
        x.book(1, 29);
        due.is("30: below LOW", x.looked(), 4);
        x.book(0, 21);
        due.is("30: the first", x.looked(), 4);
        x.known(1, 29, 39);
        due.is("30: above HIGH, as it is now", x.looked(), 3);
        x.known(1, 29, 40);
        due.is("30: then the next", x.looked(), 5);
        x.known(0, 11, 21);
        due.is("30: the very first", x.looked(), 0);
        x.book(-1, 0);
        due.is("30: none", x.looked(), NEVER);
    }
}
