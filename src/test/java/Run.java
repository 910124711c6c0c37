import java.lang.reflect.InvocationTargetException;
import java.lang.reflect.Method;

/**
 * One object of the class for one case; its calls are told as the document writes them, MIN and MAX
 * standing for the least and the greatest int: due("bend(0, 1, MAX)", -2).
 */
final class Run {
    /** The document promises nothing behind so many calls of one object, so no case may lean on more. */
    private static final int MOST_CALLS = 512;

    /** No two lines alike, and the middle of water line 1 too broad. */
    private static final int[][] SMALL = {
        {10, 20, 30, 40}, {14, 26, 37, 44}, {15, 31, 40, 47}, {13, 25, 36, 45}, {9, 19, 31, 41}};

    private final Check check;
    private final String name;
    private final HullOffsets x = new HullOffsets();
    private int calls = 0;

    Run(Check check, String name) {
        this.check = check;
        this.name = name;
    }

    /** Another new object for the same case. */
    Run another() {
        return new Run(check, name);
    }

    /** The text of a call. */
    static String call(String method, Object... arguments) {
        StringBuilder text = new StringBuilder(method).append('(');
        for (int i = 0; i < arguments.length; i++) {
            text.append(i == 0 ? "" : ", ").append(arguments[i]);
        }
        return text.append(')').toString();
    }

    long ask(String call) {
        calls++;
        if (calls > MOST_CALLS) {
            throw new IllegalStateException(name + " makes more calls than the document promises answers for");
        }
        return askFreely(call);
    }

    /** A call that is not counted, for what is promised of calls behind the last one. */
    long askFreely(String call) {
        int open = call.indexOf('(');
        String inside = call.substring(open + 1, call.length() - 1);
        String[] words = inside.isEmpty() ? new String[0] : inside.split(", ");
        Method method = methodOf(call.substring(0, open));
        Object[] arguments = new Object[words.length];
        for (int i = 0; i < words.length; i++) {
            arguments[i] = valueOf(words[i]);
        }
        try {
            return ((Number) method.invoke(x, arguments)).longValue();
        } catch (InvocationTargetException thrown) {
            throw new IllegalStateException(call + " threw " + thrown.getCause(), thrown);
        } catch (IllegalAccessException thrown) {
            throw new IllegalStateException(thrown);
        }
    }

    private static Method methodOf(String method) {
        for (Method found : HullOffsets.class.getDeclaredMethods()) {
            if (found.getName().equals(method)) {
                return found;
            }
        }
        throw new IllegalStateException("there is no " + method);
    }

    private static Object valueOf(String word) {
        switch (word) {
            case "true":
                return true;
            case "false":
                return false;
            case "MIN":
                return Integer.MIN_VALUE;
            case "MAX":
                return Integer.MAX_VALUE;
            default:
                return Integer.valueOf(word);
        }
    }

    /** Calls whose answers are looked at elsewhere. */
    Run after(String... made) {
        for (String call : made) {
            ask(call);
        }
        return this;
    }

    Run due(String call, long want) {
        check.due(name + ": " + call, ask(call), want);
        return this;
    }

    /** A share: the call's text without its last argument. */
    Run dueShare(String start, long upper, long lower) {
        due(start + ", 0)", upper);
        return due(start + ", 1)", lower);
    }

    Run same(String what, String got, String want) {
        check.isTrue(name + ": " + what + " is\n" + want + "\nwhere it is\n" + got, want.equals(got));
        return this;
    }

    Run isTrue(String what, boolean is) {
        check.isTrue(name + ": " + what, is);
        return this;
    }

    Run unknown(String call) {
        return refused(call, HullOffsets.UNKNOWN);
    }

    Run outside(String call) {
        return refused(call, HullOffsets.OUTSIDE);
    }

    Run state(String call) {
        return refused(call, HullOffsets.STATE);
    }

    Run lost(String call) {
        return refused(call, HullOffsets.LOST);
    }

    /** The refusal is answered, and all is as it was. */
    private Run refused(String call, long refusal) {
        String was = seen();
        due(call, refusal);
        return same("all behind the refused " + call, seen(), was);
    }

    /** The call is answered, and all is as it was. */
    Run changesNothing(String call) {
        String was = seen();
        ask(call);
        return same("all behind " + call, seen(), was);
    }

    /** All that the document lets be told of a state: sizes, offsets, what is held, how far from PUT, settings. */
    String seen() {
        long s = ask("many(0)");
        long w = ask("many(1)");
        StringBuilder all = new StringBuilder();
        for (int station = 0; station < s; station++) {
            for (int line = 0; line < w; line++) {
                for (int what = 0; what <= 2; what++) {
                    all.append(ask(call("ofPoint", station, line, what))).append(what == 2 ? ' ' : ',');
                }
            }
            all.append('\n');
        }
        for (int k = 0; k <= 3; k++) {
            all.append(settingOf(k)).append(' ');
        }
        return all.toString();
    }

    /** A setting can only be read by setting it: it is set to 1, which all of them may be, and set back. */
    long settingOf(int k) {
        long was = ask(call("setting", k, 1));
        ask(call("setting", k, was));
        return was;
    }

    /** A hull with these offsets, a row for each station. */
    Run hull(int[][] stations) {
        ask(call("hull", stations.length, stations[0].length));
        for (int s = 0; s < stations.length; s++) {
            for (int w = 0; w < stations[s].length; w++) {
                ask(call("offset", s, w, stations[s][w]));
            }
        }
        return this;
    }

    /** The offsets of station 0, by water lines, in a hull of as few stations as can be; the others are 0. */
    Run station(int... offsets) {
        ask(call("hull", 5, offsets.length));
        for (int w = 0; w < offsets.length; w++) {
            ask(call("offset", 0, w, offsets[w]));
        }
        return this;
    }

    /** The offsets of water line 0, by stations, in a hull of as few water lines as can be; the others are 0. */
    Run waterLine(int... offsets) {
        ask(call("hull", offsets.length, 4));
        for (int s = 0; s < offsets.length; s++) {
            ask(call("offset", s, 0, offsets[s]));
        }
        return this;
    }

    /** A hull of 5 stations and 4 water lines with all offsets alike. */
    Run flat(int v) {
        int[] row = {v, v, v, v};
        return hull(new int[][] {row, row, row, row, row});
    }

    Run bound(int v) {
        return after(call("setting", 0, v));
    }

    Run reach(int v) {
        return after(call("setting", 1, v));
    }

    Run hold(int station, int line) {
        return after(call("hold", station, line, true));
    }

    /** Another object with a hull of 5 by 4 in use: points held, points moved, each setting changed. */
    Run worn() {
        return another().hull(SMALL).bound(2).reach(3).after("setting(2, 7)", "setting(3, 4)")
                .hold(2, 1).hold(4, 3).after("fair(0, 1)");
    }

    /** Another object with a hull of 9 by 7 in use, as worn. */
    Run wornLarge() {
        int[][] stations = new int[9][7];
        for (int s = 0; s < 9; s++) {
            for (int w = 0; w < 7; w++) {
                stations[s][w] = 40 + 9 * s * (8 - s) + 20 * w - w * w + (s + w) % 2;
            }
        }
        return another().hull(stations).bound(2).reach(3).after("setting(2, 7)", "setting(3, 4)")
                .hold(2, 1).hold(8, 6).after("fair(0, 3)");
    }

    /** What is looked at in a hull of s stations and w water lines. */
    interface Sized {
        void look(Run x, int s, int w);
    }

    /** Looks at a new hull of each size. */
    void everySize(Sized sized) {
        for (int s = 5; s <= 9; s++) {
            for (int w = 4; w <= 7; w++) {
                sized.look(another().after(call("hull", s, w)), s, w);
            }
        }
    }

    /** The offsets of a station, or of a water line, as text. */
    String offsetsOf(int view, int k) {
        StringBuilder row = new StringBuilder();
        long points = ask(call("many", view));
        for (int i = 0; i < points; i++) {
            String call = view == 0 ? call("ofPoint", i, k, 0) : call("ofPoint", k, i, 0);
            row.append(i == 0 ? "" : " ").append(ask(call));
        }
        return row.toString();
    }

    /** LEAST of line k of a view: how much it is together, and its numbers. */
    Run dueLeast(int view, int k, int together, String numbers) {
        due(call("least", view, k, -1), together);
        StringBuilder row = new StringBuilder();
        long points = ask(call("many", view));
        for (int i = 0; i < points; i++) {
            row.append(i == 0 ? "" : " ").append(ask(call("least", view, k, i)));
        }
        return same("LEAST", row.toString(), numbers);
    }

    /** There are no MOVES of line k of a view: each number of it is told as NONE. */
    Run dueNoMoves(int view, int k) {
        long points = ask(call("many", view));
        for (int i = -1; i < points; i++) {
            due(call("least", view, k, i), HullOffsets.NONE);
        }
        return this;
    }
}
