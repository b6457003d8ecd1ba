/** What the tests of one file share: answers that are due, and the exit code at the end. */
final class Due {
    private int looked;
    private int wrong;

    void is(String call, long got, long want) {
        looked++;
        if (got != want) {
            wrong++;
            System.out.println(call + " answered " + got + ", due is " + want);
        }
    }

    void text(String call, String got, String want) {
        looked++;
        if (!got.equals(want)) {
            wrong++;
            System.out.println(call + ": got\n" + got + "due is\n" + want);
        }
    }

    /** Feeds a text and asks room(). */
    static int read(ThreeMeasures x, String text) {
        for (int i = 0; i < text.length(); i++) {
            x.feed(text.charAt(i));
        }
        return x.room();
    }

    /** A new object with one ROOM of that text, which is to be read without a fault. */
    ThreeMeasures in(String text) {
        ThreeMeasures x = new ThreeMeasures();
        is("room() of " + text, read(x, text), 0);
        return x;
    }

    /** What room() answers to that text on a new object. */
    void reads(String text, int want) {
        is("room() of \"" + text + "\"", read(new ThreeMeasures(), text), want);
    }

    void end() {
        System.out.println(wrong == 0 ? looked + " answers as due" : wrong + " of " + looked + " answers not as due");
        if (wrong != 0) {
            System.exit(1);
        }
    }
}
