import java.util.Random;

/** Runs of calls, drawn from fixed seeds, on the class and on PlainHull side by side: promises 1 to 21. */
public final class AgainstPlainTest {
    private static final int RUNS = 200;
    /** Of the 512 calls that an object is used for, some are left to make its state plain at the end. */
    private static final int DRAWN_CALLS = 400;

    private final Check check = new Check("AgainstPlainTest");
    private Random random;
    private HullOffsets x;
    private PlainHull plain;
    private int run;
    private int calls;

    public static void main(String[] args) {
        AgainstPlainTest test = new AgainstPlainTest();
        for (int run = 0; run < RUNS && test.check.wrongs() < 20; run++) {
            test.play(run);
        }
        test.check.end();
    }

    private void play(int number) {
        run = number;
        calls = 0;
        random = new Random(1000 + number);
        x = new HullOffsets();
        plain = new PlainHull();
        if (number % 8 != 0) {
            renew(5 + below(5), 4 + below(4));
        }
        settle();
        fill();
        while (calls < DRAWN_CALLS) {
            call();
        }
        compareAll();
    }

    private void due(String call, long got, long want) {
        calls++;
        check.due("run " + run + ", call " + calls + ": " + call, got, want);
    }

    private int below(int n) {
        return random.nextInt(n);
    }

    private void renew(int s, int w) {
        due("hull(" + s + ", " + w + ")", x.hull(s, w), plain.hull(s, w));
    }

    private void set(int k, int v) {
        due("setting(" + k + ", " + v + ")", x.setting(k, v), plain.setting(k, v));
    }

    private void put(int station, int line, int v) {
        due("offset(" + station + ", " + line + ", " + v + ")", x.offset(station, line, v), plain.offset(station, line, v));
    }

    private void settle() {
        // Bounds about as large as what the moves can mend make both lines with MOVES and lines without.
        set(0, run % 6 == 5 ? below(1000) : below(9));
        // To try all rows of a long line with a wide reach takes long, so few runs have it.
        set(1, run % 16 == 0 ? 3 : below(3));
        set(2, 1 + below(99));
        set(3, 1 + below(99));
    }

    private void fill() {
        for (int station = 0; station < plain.many(0); station++) {
            for (int line = 0; line < plain.many(1); line++) {
                put(station, line, drawnOffset(run % 6, station, line));
            }
        }
    }

    /** By shape: a round hull with some noise (0, 1), at the low end (2), at the high end (3), small (4), any (5). */
    private int drawnOffset(int shape, int station, int line) {
        int s = plain.many(0);
        switch (shape) {
            case 2:
                return below(3);
            case 3:
                return 999 - below(3);
            case 4:
                return below(40);
            case 5:
                return below(1000);
            default:
                int round = 30 + 9 * station * (s - 1 - station) / 2 + 12 * line - line * line;
                return round + below(5) - 2;
        }
    }

    /** Most numbers fit; some are just beside what fits, few as far off as can be. */
    private int mostly(int n) {
        if (below(80) == 0) {
            return below(2) == 0 ? Integer.MIN_VALUE : Integer.MAX_VALUE;
        }
        return below(15) == 0 ? below(n + 4) - 2 : below(n);
    }

    private void call() {
        int view = mostly(2);
        int k = mostly(view == 0 ? plain.many(1) : plain.many(0));
        int i = mostly(view == 0 ? plain.many(0) : plain.many(1));
        int which = mostly(2);
        String line = "(" + view + ", " + k + ", " + i + "), " + which;
        switch (below(20)) {
            case 0, 1 -> state();
            case 2 -> due("bend" + line, x.bend(view, k, i), plain.bend(view, k, i));
            case 3 -> due("jump" + line, x.jump(view, k, i), plain.jump(view, k, i));
            case 4 -> due("rough" + line, x.rough(view, k), plain.rough(view, k));
            case 5, 6 -> due("least" + line, x.least(view, k, i), plain.least(view, k, i));
            case 7 -> due("least" + line, x.least(view, k, -1), plain.least(view, k, -1));
            case 8 -> due("fair" + line, x.fair(view, k), plain.fair(view, k));
            case 9, 10 -> seldom();
            case 11 -> due("area" + line, x.area(view, k, which), plain.area(view, k, which));
            case 12 -> due("centre" + line, x.centre(view, k, which), plain.centre(view, k, which));
            case 13 -> due("volume" + line, x.volume(view, which), plain.volume(view, which));
            case 14, 15, 16 -> thirdView(which);
            default -> counts();
        }
    }

    private void state() {
        int station = mostly(plain.many(0));
        int line = mostly(plain.many(1));
        boolean is = below(3) != 0;
        switch (below(5)) {
            case 0 -> put(station, line, drawnOffset(run % 6, station, line) - 1);
            case 1 -> put(station, line, Math.max(0, plain.ofPoint(station, line, 0)));
            case 2, 3 -> due("hold(" + station + ", " + line + ", " + is + ")",
                    x.hold(station, line, is), plain.hold(station, line, is));
            default -> set(mostly(4), below(12) - 1);
        }
        // A drawn setting may have made the reach wide, which PlainHull is too slow for.
        if (run % 16 != 0) {
            set(1, below(3));
        }
    }

    private void seldom() {
        int n = mostly(5);
        switch (below(12)) {
            case 0 -> due("back()", x.back(), plain.back());
            case 1 -> due("rounds(" + n + ")", x.rounds(n), plain.rounds(n));
            case 2 -> due("rounds(20)", x.rounds(20), plain.rounds(20));
            case 3 -> due("worst()", x.worst(), plain.worst());
            case 4 -> refill();
            default -> due("roughest(" + n + ")", x.roughest(n), plain.roughest(n));
        }
    }

    private void refill() {
        if (calls < DRAWN_CALLS / 2) {
            renew(4 + below(7), 3 + below(6));
            fill();
        }
    }

    private void thirdView(int which) {
        int station = mostly(plain.many(0));
        // A breadth near an offset is the telling one.
        int b = plain.ofPoint(below(plain.many(0)), below(plain.many(1)), 0) + below(5) - 2;
        if (below(2) == 0) {
            due("height(" + station + ", " + b + ", " + which + ")",
                    x.height(station, b, which), plain.height(station, b, which));
        } else {
            due("breaks(" + b + ")", x.breaks(b), plain.breaks(b));
        }
    }

    private void counts() {
        int what = mostly(5);
        int station = mostly(plain.many(0));
        int line = mostly(plain.many(1));
        due("many(" + what + ")", x.many(what), plain.many(what));
        due("ofPoint(" + station + ", " + line + ", " + what + ")",
                x.ofPoint(station, line, what), plain.ofPoint(station, line, what));
    }

    private void compareAll() {
        for (int station = 0; station < plain.many(0); station++) {
            for (int line = 0; line < plain.many(1); line++) {
                due("offset of " + station + ", " + line, x.ofPoint(station, line, 0), plain.ofPoint(station, line, 0));
            }
        }
        for (int what = 0; what <= 4; what++) {
            due("many(" + what + ")", x.many(what), plain.many(what));
        }
    }
}
