import java.util.function.Consumer;
import java.util.function.ToLongFunction;

/** Tells all that can be asked of an object, so that two objects can be held against each other. */
final class Seen {
    private Seen() {
    }

    /** All that can be asked, and what THE TAPE and THE IMAGE hold; the object is of no use afterwards. */
    static String all(ThreeMeasures x) {
        StringBuilder told = new StringBuilder();
        asked(x, told);
        put(told, "room", x.room(), x.told(1), x.told(2), x.count(2), x.count(6));
        put(told, "undo", x.undo());
        asked(x, told);
        put(told, "room", x.room(), x.told(1), x.told(2), x.count(2), x.count(6));
        return told.toString();
    }

    private static void put(StringBuilder told, String what, long... answers) {
        told.append(what);
        for (long answer : answers) {
            told.append(' ').append(answer);
        }
        told.append('\n');
    }

    private static void asked(ThreeMeasures x, StringBuilder told) {
        for (int what = 0; what < 8; what++) {
            put(told, "count, trace, closed", x.count(what), x.trace(what), x.closed(what));
        }
        put(told, "told, off", x.told(0), x.told(1), x.told(2), x.off(0), x.off(1));
        put(told, "spread, looked, mean", x.spread(), x.looked(), x.mean(0), x.mean(1));
        for (int i = 0; i < x.count(0); i++) {
            put(told, "stick", x.of(i, 0), x.of(i, 1), x.of(i, 2));
            put(told, "its SLACK and MIDDLE", x.between(i, 0, 1, 3), x.between(i, 0, 0, 2), x.between(i, 0, 1, 2),
                x.between(i, 0, 2, 2), x.between(i, 0, 3, 2));
        }
        for (int i = 0; i < x.count(1); i++) {
            put(told, "wall", x.at(i, 0), x.at(i, 1), x.whose(i), x.wrong(i));
        }
    }

    /**
     * A call that is refused after what is done: its answer, and that all is as it would be without the call. Two
     * objects of their own are made for it, so that no earlier call is in the way.
     */
    static void refused(Due due, String call, Consumer<ThreeMeasures> done, ToLongFunction<ThreeMeasures> asks,
            long want) {
        ThreeMeasures x = new ThreeMeasures();
        ThreeMeasures y = new ThreeMeasures();
        done.accept(x);
        done.accept(y);
        due.is(call, asks.applyAsLong(x), want);
        due.text(call + " changes nothing", all(x), all(y));
    }
}
