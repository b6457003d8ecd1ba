import java.util.Random;

/** Long runs of calls, by fixed seeds, each answer held against PlainMeasures; wrong inputs are among them. */
public final class ModelTest {
    private static final int RUNS = 400, CALLS = 480;
    private static final String SIGNS = "skvlnw<=>0123456789&|!();; boardstepoffwear";

    private final Due due = new Due();
    private Random random;
    private ThreeMeasures x;
    private PlainMeasures m;
    private String name;
    private String text = "";

    public static void main(String[] args) {
        ModelTest test = new ModelTest();
        for (int run = 0; run < RUNS; run++) {
            test.run(run);
        }
        test.due.end();
    }

    private void run(int seed) {
        random = new Random(seed);
        x = new ThreeMeasures();
        m = new PlainMeasures();
        text = "";
        int walls = random.nextInt(3), sticks = random.nextInt(5);
        for (int i = 0; i < walls; i++) {
            call(4, seed, -1);
        }
        for (int i = 0; i < sticks; i++) {
            call(1, seed, -1);
        }
        for (int i = walls + sticks; i < CALLS; i++) {
            // most runs spend few calls on texts, for a text takes many calls
            boolean onText = seed % 3 == 0 ? random.nextInt(4) != 0 : random.nextInt(3) == 0 && i < 200;
            call(onText ? 0 : 1 + random.nextInt(34), seed, i);
        }
    }

    /** Mostly a number from least to most, sometimes one beside them, seldom a far one. */
    private int near(int least, int most) {
        int dice = random.nextInt(60);
        if (dice == 0) {
            return random.nextBoolean() ? least - 1 : most + 1;
        }
        if (dice == 1 && random.nextInt(4) == 0) {
            return random.nextBoolean() ? Integer.MIN_VALUE + random.nextInt(3) : Integer.MAX_VALUE - random.nextInt(3);
        }
        if (dice == 2) {
            return random.nextBoolean() ? least : most;
        }
        return least + random.nextInt(most - least + 1);
    }

    private int stick() {
        int size = m.count(0);
        return near(0, size == 0 ? 0 : size - 1);
    }

    private int wall() {
        int size = m.count(1);
        return near(0, size == 0 ? 0 : size - 1);
    }

    private void call(int which, int seed, int at) {
        if (which == 0) {
            feedOrRead(seed, at);
        } else if (which < 12) {
            callRooms(which, seed, at);
        } else if (which < 22) {
            callWays(which, seed, at);
        } else {
            callMarks(which, seed, at);
        }
    }

    private void same(String call, long got, long want, int seed, int at) {
        due.is("run " + seed + ", call " + at + ": " + call, got, want);
    }

    private void feedOrRead(int seed, int at) {
        if (text.isEmpty()) {
            text = newText();
        }
        if (text.charAt(0) == '\n') {
            text = text.substring(1);
            String tape = name;
            same("room() of " + tape, x.room(), m.room(), seed, at);
            return;
        }
        int sign = text.charAt(0);
        text = text.substring(1);
        same("feed(" + sign + ")", x.feed(sign), m.feed(sign), seed, at);
    }

    /** A text that is a ROOM, or one that is spoilt somewhere; room() follows at its end. */
    private String newText() {
        StringBuilder made = new StringBuilder();
        int clauses = random.nextInt(8) == 0 ? 8 + random.nextInt(5) : random.nextInt(4) == 0 ? 0 : 1 + random.nextInt(4);
        for (int i = 0; i < clauses; i++) {
            made.append(i > 0 ? ";" : "").append(clause(clauses < 8));
        }
        int spoil = random.nextInt(5);
        if (spoil == 0 && made.length() > 0) {
            made.setLength(random.nextInt(made.length()));
        } else if (spoil == 1) {
            made.insert(random.nextInt(made.length() + 1), SIGNS.charAt(random.nextInt(SIGNS.length())));
        } else if (spoil == 2 && made.length() > 0) {
            made.setCharAt(random.nextInt(made.length()), SIGNS.charAt(random.nextInt(SIGNS.length())));
        } else if (spoil == 3 && random.nextInt(8) == 0) {
            made.append((char) near(0, 127));
        }
        name = made.toString();
        return made.append('\n').toString();
    }

    private String clause(boolean isWide) {
        switch (random.nextInt(isWide ? 6 : 3)) {
            case 0: return "board " + number(100);
            case 1: return "step " + number(10);
            case 2: return "step " + number(100);
            case 3: return "wear " + number(10) + " " + either(0);
            default: return "off " + number(random.nextBoolean() ? 4 : 100) + " " + either(0);
        }
    }

    private String number(int below) {
        return (random.nextInt(30) == 0 ? "0" : "") + random.nextInt(below) + (random.nextInt(60) == 0 ? "1" : "");
    }

    private String either(int open) {
        String made = factor(open);
        while (random.nextInt(3) == 0) {
            made += (random.nextBoolean() ? "&" : "|") + factor(open);
        }
        return made;
    }

    private String factor(int open) {
        int dice = random.nextInt(open > 5 ? 9 : 5);
        if (dice == 0) {
            return "!" + factor(open + 1);
        }
        if (dice == 1) {
            return "(" + either(open + 1) + ")";
        }
        return "skvlnw".charAt(random.nextInt(6)) + "" + "<=>".charAt(random.nextInt(3)) + number(random.nextInt(9) == 0 ? 100 : 8);
    }

    private void callRooms(int which, int seed, int at) {
        switch (which) {
            case 1: {
                int k = near(0, 6), v = near(0, 9), l = near(2, 60);
                same("stick(" + k + ", " + v + ", " + l + ")", x.stick(k, v, l), m.stick(k, v, l), seed, at);
                break;
            }
            case 2: {
                int s = stick(), w = near(0, 2);
                same("of(" + s + ", " + w + ")", x.of(s, w), m.of(s, w), seed, at);
                break;
            }
            case 3: {
                int s = stick(), k = near(0, 3), n = near(0, 9);
                same("row(" + s + ", " + k + ", " + n + ")", x.row(s, k, n), m.row(s, k, n), seed, at);
                break;
            }
            case 4:
                same("wall()", x.wall(), m.wall(), seed, at);
                break;
            case 5: {
                int w = wall(), what = near(0, 2);
                same("at(" + w + ", " + what + ")", x.at(w, what), m.at(w, what), seed, at);
                break;
            }
            case 6: case 7: {
                int w = wall(), low = near(0, 999), high = random.nextInt(3) == 0 ? near(0, 999) : low + random.nextInt(40);
                if (random.nextInt(4) == 0) {
                    low = random.nextInt(60);
                    high = low + random.nextInt(3);
                }
                same("known(" + w + ", " + low + ", " + high + ")", x.known(w, low, high), m.known(w, low, high), seed, at);
                break;
            }
            case 8: {
                int what = near(0, 2);
                same("told(" + what + ")", x.told(what), m.told(what), seed, at);
                break;
            }
            case 9: case 10: {
                int w = wall(), s = stick(), n = near(0, 30), r = near(0, 59);
                boolean more = random.nextBoolean();
                same("measure(" + w + ", " + s + ", " + n + ", " + r + ", " + more + ")",
                    x.measure(w, s, n, r, more), m.measure(w, s, n, r, more), seed, at);
                break;
            }
            default: {
                int s = stick(), w = wall(), n = near(0, 30), what = near(0, 3);
                same("between(" + s + ", " + w + ", " + n + ", " + what + ")",
                    x.between(s, w, n, what), m.between(s, w, n, what), seed, at);
                break;
            }
        }
    }

    private void callWays(int which, int seed, int at) {
        switch (which) {
            case 12: {
                int w = wall(), l = near(1, 999), what = near(0, 2);
                same("surest(" + w + ", " + l + ", " + what + ")", x.surest(w, l, what), m.surest(w, l, what), seed, at);
                break;
            }
            case 13: case 14: {
                int w = wall(), l = random.nextInt(5) == 0 ? near(1, 999) : near(1, 200), what = near(0, 5);
                same("twice(" + w + ", " + l + ", " + what + ")", x.twice(w, l, what), m.twice(w, l, what), seed, at);
                break;
            }
            case 15: {
                int w = wall(), s = stick(), g = random.nextBoolean() ? near(0, 999) : near(0, 30);
                same("again(" + w + ", " + s + ", " + g + ")", x.again(w, s, g), m.again(w, s, g), seed, at);
                break;
            }
            case 16: {
                int a = wall(), b = wall(), c = wall();
                same("square(" + a + ", " + b + ", " + c + ")", x.square(a, b, c), m.square(a, b, c), seed, at);
                break;
            }
            case 17: {
                int way = random.nextInt(12) == 0 ? -1 : near(0, 3), l = near(1, 99);
                same("step(" + way + ", " + l + ")", x.step(way, l), m.step(way, l), seed, at);
                break;
            }
            case 18: {
                int what = near(0, 1);
                same("off(" + what + ")", x.off(what), m.off(what), seed, at);
                break;
            }
            case 19: {
                int k = near(0, 7);
                same("closed(" + k + ")", x.closed(k), m.closed(k), seed, at);
                break;
            }
            case 20: {
                int w = wall(), part = near(0, 1);
                same("cut(" + w + ")", x.cut(w), m.cut(w), seed, at);
                same("cost(" + w + ", " + part + ")", x.cost(w, part), m.cost(w, part), seed, at);
                break;
            }
            default: {
                int a = near(1, 40), b = near(1, 40), wanted = near(0, 40);
                same("cups(" + a + ", " + b + ", " + wanted + ")", x.cups(a, b, wanted), m.cups(a, b, wanted), seed, at);
                break;
            }
        }
    }

    private void callMarks(int which, int seed, int at) {
        switch (which) {
            case 22: {
                int place = random.nextInt(9) == 0 ? -1 : random.nextBoolean() ? near(1, 999) : near(1, 120);
                same("mark(" + place + ")", x.mark(place), m.mark(place), seed, at);
                break;
            }
            case 23: {
                int w = wall();
                same("whose(" + w + ")", x.whose(w), m.whose(w), seed, at);
                break;
            }
            case 24: {
                int w = wall();
                same("wrong(" + w + ")", x.wrong(w), m.wrong(w), seed, at);
                break;
            }
            case 25: {
                int w = wall(), l = near(0, 999), part = near(0, 1);
                same("odds(" + w + ", " + l + ", " + part + ")", x.odds(w, l, part), m.odds(w, l, part), seed, at);
                break;
            }
            case 26: {
                int part = near(0, 1);
                same("mean(" + part + ")", x.mean(part), m.mean(part), seed, at);
                break;
            }
            case 27:
                same("spread()", x.spread(), m.spread(), seed, at);
                break;
            case 28: {
                int w = random.nextInt(9) == 0 ? -1 : wall(), l = near(0, 999);
                same("book(" + w + ", " + l + ")", x.book(w, l), m.book(w, l), seed, at);
                break;
            }
            case 29:
                same("looked()", x.looked(), m.looked(), seed, at);
                break;
            case 30: {
                int s = stick(), act = near(0, 2), with = random.nextInt(3) == 0 ? random.nextInt() : near(-20, 20);
                same("act(" + s + ", " + act + ", " + with + ")", x.act(s, act, with), m.act(s, act, with), seed, at);
                break;
            }
            case 31: {
                int i = random.nextInt(4) == 0 ? near(0, 19) : near(0, 6);
                same("trace(" + i + ")", x.trace(i), m.trace(i), seed, at);
                break;
            }
            case 32: {
                int s = stick(), k = near(0, 6);
                same("as(" + s + ", " + k + ")", x.as(s, k), m.as(s, k), seed, at);
                break;
            }
            case 33: {
                boolean isImage = random.nextInt(3) == 0;
                same(isImage ? "image()" : "undo()", isImage ? x.image() : x.undo(), isImage ? m.image() : m.undo(), seed, at);
                break;
            }
            default: {
                int what = near(0, 7);
                same("count(" + what + ")", x.count(what), m.count(what), seed, at);
                break;
            }
        }
    }
}
