/** Promises 11 to 14: least, fair, rounds, back. */
public final class FairTest {
    private static final Check CHECK = new Check("FairTest");
    private static final int MIN = Integer.MIN_VALUE;
    private static final int MAX = Integer.MAX_VALUE;
    private static final int[] FIVES = {5, 5, 5, 5};
    private static final String NO_MOVES = "-9 -9 -9 -9";

    public static void main(String[] args) {
        leastOfFairLine();
        leastIsFewest();
        leastIsFirst();
        leastWithHeld();
        leastHeldInBothViews();
        leastWithinOffsets();
        leastByReach();
        leastOfLongLine();
        leastRefused();
        fair();
        fairInBothViews();
        fairRefused();
        rounds();
        roundsInOrder();
        roundThatMovesBack();
        roundsThatNeverRest();
        roundsRefused();
        back();
        CHECK.end();
    }

    private static void due(String call, long got, long want) {
        CHECK.due(call, got, want);
    }

    private static void same(String what, String got, String want) {
        CHECK.isTrue(what + " is " + want + " (it is " + got + ")", want.equals(got));
    }

    /** LEAST of line 0 of a view. */
    private static void dueLeast(HullOffsets x, int view, int total, String moves) {
        String was = Hulls.seen(x);
        due("least(" + view + ", 0, -1)", x.least(view, 0, -1), total);
        same("LEAST of line 0 of view " + view + " of\n" + was + "\n", Hulls.least(x, view, 0), moves);
        CHECK.isTrue("least changes nothing", was.equals(Hulls.seen(x)));
    }

    /** With a BOUND of 0 a line must have no jump at all, so LEAST can be told by hand. */
    private static HullOffsets strict(HullOffsets x, int reach) {
        x.setting(0, 0);
        x.setting(1, reach);
        return x;
    }

    private static void leastOfFairLine() {
        dueLeast(new HullOffsets(), 0, 0, "0 0 0 0 0 0 0");
        dueLeast(new HullOffsets(), 1, 0, "0 0 0 0 0");
        dueLeast(Hulls.withStation0(5, 5, 5, 15), 1, 0, "0 0 0 0");
        HullOffsets x = strict(Hulls.withStation0(5, 5, 5, 8), 2);
        dueLeast(x, 1, 1, "0 -1 0 0");
        x.setting(0, 3);
        dueLeast(x, 1, 0, "0 0 0 0");
        x.setting(0, 2);
        dueLeast(x, 1, 1, "0 -1 0 0");
    }

    private static void leastIsFewest() {
        // A jump of 7: two steps of an inner point, which count thrice, and one of an outer point.
        dueLeast(strict(Hulls.withStation0(5, 5, 5, 12), 3), 1, 3, "0 -2 0 -1");
        dueLeast(strict(Hulls.withStation0(50, 50, 50, 62), 3), 1, 4, "0 -3 1 0");
        dueLeast(strict(Hulls.withStation0(50, 50, 50, 74), 3), 1, 12, "3 -3 3 -3");
        HullOffsets x = strict(Hulls.withStation0(50, 50, 50, 75), 3);
        dueLeast(x, 1, HullOffsets.NONE, NO_MOVES);
        x.setting(0, 1);
        dueLeast(x, 1, 12, "3 -3 3 -3");
        x = strict(Hulls.withStation0(50, 50, 50, 26), 3);
        dueLeast(x, 1, 12, "-3 3 -3 3");
    }

    private static void leastIsFirst() {
        dueLeast(strict(Hulls.withStation0(5, 5, 5, 6), 1), 1, 1, "0 0 0 -1");
        dueLeast(strict(Hulls.withStation0(5, 5, 5, 4), 1), 1, 1, "-1 0 0 0");
        dueLeast(strict(Hulls.withStation0(5, 5, 5, 8), 1), 1, 1, "0 -1 0 0");
        dueLeast(strict(Hulls.withStation0(5, 5, 5, 2), 1), 1, 1, "0 0 -1 0");
        // A jump of 2: 0 0 0 -2, 0 -1 0 1, 1 0 0 -1 and others are as few.
        dueLeast(strict(Hulls.withStation0(5, 5, 5, 7), 2), 1, 2, "-1 -1 0 0");
    }

    private static void leastWithHeld() {
        HullOffsets x = strict(Hulls.withStation0(5, 5, 5, 8), 2);
        x.hold(0, 1, true);
        dueLeast(x, 1, 1, "0 0 1 0");
        x.hold(0, 2, true);
        dueLeast(x, 1, 3, "1 0 0 -2");
        x.setting(1, 1);
        dueLeast(x, 1, HullOffsets.NONE, NO_MOVES);
        x.setting(1, 3);
        dueLeast(x, 1, 3, "0 0 0 -3");
        x.hold(0, 3, true);
        dueLeast(x, 1, 3, "3 0 0 0");
        x.hold(0, 0, true);
        dueLeast(x, 1, HullOffsets.NONE, NO_MOVES);
        x.offset(0, 3, 5);
        dueLeast(x, 1, 0, "0 0 0 0");
        x.offset(0, 3, 8);
        x.hold(0, 1, false);
        dueLeast(x, 1, 1, "0 -1 0 0");
    }

    private static void leastHeldInBothViews() {
        HullOffsets x = strict(Hulls.withLine0(5, 5, 5, 8, 14), 1);
        dueLeast(x, 0, 2, "0 -1 0 0 -1");
        x.hold(0, 1, true);
        dueLeast(x, 0, 2, "0 -1 0 0 -1");
        x.hold(1, 0, true);
        dueLeast(x, 0, 3, "1 0 1 1 0");
    }

    private static void leastWithinOffsets() {
        dueLeast(strict(Hulls.withStation0(1, 1, 1, 4), 1), 1, 1, "0 -1 0 0");
        dueLeast(strict(Hulls.withStation0(0, 0, 0, 3), 1), 1, 1, "0 0 1 0");
        HullOffsets x = strict(Hulls.withStation0(997, 998, 999, 999), 1);
        dueLeast(x, 1, 1, "-1 0 0 0");
        x.hold(0, 0, true);
        dueLeast(x, 1, HullOffsets.NONE, NO_MOVES);
        x.setting(1, 2);
        dueLeast(x, 1, 3, "0 0 -1 -2");
        x = strict(Hulls.withStation0(996, 997, 998, 998), 1);
        x.hold(0, 0, true);
        dueLeast(x, 1, 1, "0 0 0 1");
    }

    private static void leastByReach() {
        HullOffsets x = strict(Hulls.withStation0(5, 5, 5, 6), 0);
        dueLeast(x, 1, HullOffsets.NONE, NO_MOVES);
        x.offset(0, 3, 5);
        dueLeast(x, 1, 0, "0 0 0 0");
    }

    private static void leastOfLongLine() {
        // Jumps are all 0 where offsets go by squares; with point 4 beyond reach all others must go its way.
        HullOffsets x = strict(Hulls.withLine0(100, 118, 132, 142, 151, 150, 148, 142, 132), 3);
        dueLeast(x, 0, 3, "0 0 0 0 -3 0 0 0 0");
        x.offset(4, 0, 152);
        dueLeast(x, 0, 11, "1 1 1 1 -3 1 1 1 1");
        x.hold(8, 0, true);
        due("one end held", x.least(0, 0, -1), HullOffsets.NONE);
        x.hold(8, 0, false);
        x.setting(1, 2);
        due("reach 2", x.least(0, 0, 4), -2);
        due("reach 2, together", x.least(0, 0, -1), 18);
    }

    private static void leastRefused() {
        HullOffsets x = new HullOffsets();
        due("least(2, 99, 99)", x.least(2, 99, 99), HullOffsets.OUTSIDE);
        due("least(-1, 99, 99)", x.least(-1, 99, 99), HullOffsets.OUTSIDE);
        due("least(MAX, 0, 0)", x.least(MAX, 0, 0), HullOffsets.OUTSIDE);
        due("least(0, 5, 99)", x.least(0, 5, 99), HullOffsets.UNKNOWN);
        due("least(0, -1, -2)", x.least(0, -1, -2), HullOffsets.UNKNOWN);
        due("least(1, 7, -1)", x.least(1, 7, -1), HullOffsets.UNKNOWN);
        due("least(1, MIN, 0)", x.least(1, MIN, 0), HullOffsets.UNKNOWN);
        due("least(0, 4, 6)", x.least(0, 4, 6), 0);
        due("least(1, 6, 4)", x.least(1, 6, 4), 0);
        x.offset(3, 2, 999);
        due("no MOVES", x.least(1, 3, 4), HullOffsets.NONE);
        int[] noPoint = {-2, 5, MIN, MAX};
        for (int i : noPoint) {
            due("least(1, 3, " + i + ")", x.least(1, 3, i), HullOffsets.OUTSIDE);
        }
        due("least(0, 2, 6)", x.least(0, 2, 6), HullOffsets.NONE);
        due("least(0, 2, 7)", x.least(0, 2, 7), HullOffsets.OUTSIDE);
    }

    private static void fair() {
        HullOffsets x = strict(Hulls.withStation0(5, 5, 5, 8), 2);
        due("fair(1, 0)", x.fair(1, 0), 1);
        same("station 0", Hulls.station(x, 0), "5 4 5 8");
        due("ofPoint(0, 1, 2)", x.ofPoint(0, 1, 2), -1);
        due("rough(1, 0)", x.rough(1, 0), 0);
        due("fair(1, 0) again", x.fair(1, 0), 0);
        same("station 0 again", Hulls.station(x, 0), "5 4 5 8");
        x = strict(Hulls.withStation0(50, 50, 50, 74), 3);
        due("fair(1, 0) with the whole reach", x.fair(1, 0), 12);
        same("station 0 of it", Hulls.station(x, 0), "53 47 53 71");
    }

    private static void fairInBothViews() {
        HullOffsets x = strict(Hulls.withLine0(5, 5, 5, 8, 14), 1);
        due("fair(0, 0)", x.fair(0, 0), 2);
        int[] want = {5, 4, 5, 8, 13};
        for (int s = 0; s < 5; s++) {
            due("ofPoint(" + s + ", 0, 0)", x.ofPoint(s, 0, 0), want[s]);
        }
        due("no other point is moved", x.many(4), 2);
    }

    private static void fairRefused() {
        HullOffsets x = new HullOffsets();
        x.offset(3, 2, 999);
        String was = Hulls.seen(x);
        due("fair(1, 3)", x.fair(1, 3), HullOffsets.STATE);
        due("fair(0, 2)", x.fair(0, 2), HullOffsets.STATE);
        due("fair(2, 99)", x.fair(2, 99), HullOffsets.OUTSIDE);
        due("fair(-1, 0)", x.fair(-1, 0), HullOffsets.OUTSIDE);
        due("fair(0, 5)", x.fair(0, 5), HullOffsets.UNKNOWN);
        due("fair(0, -1)", x.fair(0, -1), HullOffsets.UNKNOWN);
        due("fair(1, 7)", x.fair(1, 7), HullOffsets.UNKNOWN);
        due("fair(1, MAX)", x.fair(1, MAX), HullOffsets.UNKNOWN);
        CHECK.isTrue("refused fairs change nothing", was.equals(Hulls.seen(x)));
        due("fair(1, 6)", x.fair(1, 6), 0);
    }

    private static HullOffsets oneBump() {
        return strict(Hulls.of(new int[][] {FIVES, FIVES, {5, 6, 5, 5}, FIVES, FIVES}), 1);
    }

    private static void rounds() {
        due("rounds(20) of a fair hull", new HullOffsets().rounds(20), 1);
        HullOffsets x = oneBump();
        due("rounds(20)", x.rounds(20), 2);
        due("the bump is gone", x.ofPoint(2, 1, 0), 5);
        due("it alone was moved", x.many(4), 1);
        due("rounds(20) again", x.rounds(20), 1);
        x = oneBump();
        due("rounds(1)", x.rounds(1), 1);
        due("the bump is gone by one round", x.ofPoint(2, 1, 0), 5);
        // The first point alone is moved, and then the last one alone.
        x = strict(Hulls.of(new int[][] {{6, 5, 5, 5}, FIVES, FIVES, FIVES, FIVES}), 1);
        due("rounds(20), the first point", x.rounds(20), 2);
        x = strict(Hulls.of(new int[][] {FIVES, FIVES, FIVES, FIVES, {5, 5, 5, 6}}), 1);
        due("rounds(20), the last point", x.rounds(20), 2);
        x = oneBump();
        x.hold(2, 1, true);
        x.offset(2, 1, 999);
        due("lines without MOVES are passed over", x.rounds(20), 1);
        due("nothing is moved", x.many(4), 0);
    }

    /** Its rounds never come to rest: each goes on changing offsets. */
    private static HullOffsets restless() {
        int[][] stations = {{13, 11, 13, 10}, {10, 11, 13, 10}, {13, 12, 13, 13}, {10, 11, 11, 12}, {11, 10, 12, 11}};
        HullOffsets x = Hulls.of(stations);
        x.setting(0, 1);
        x.setting(1, 1);
        return x;
    }

    private static void fairAll(HullOffsets x, int view) {
        for (int k = 0; k < x.many(1 - view); k++) {
            x.fair(view, k);
        }
    }

    private static void roundsInOrder() {
        HullOffsets x = restless();
        x.rounds(1);
        HullOffsets inOrder = restless();
        fairAll(inOrder, 0);
        fairAll(inOrder, 1);
        same("a round", Hulls.seen(x), Hulls.seen(inOrder));
        HullOffsets otherWay = restless();
        fairAll(otherWay, 1);
        fairAll(otherWay, 0);
        CHECK.isTrue("the order tells", !Hulls.seen(otherWay).equals(Hulls.seen(inOrder)));
        x.rounds(1);
        x.rounds(1);
        HullOffsets three = restless();
        due("rounds(3)", three.rounds(3), 3);
        same("three rounds", Hulls.seen(three), Hulls.seen(x));
    }

    private static void roundThatMovesBack() {
        HullOffsets x = strict(Hulls.of(new int[][] {{4, 4, 4, 4}, FIVES, FIVES, FIVES, FIVES}), 1);
        for (int s = 0; s < 5; s++) {
            for (int w = 0; w < 4; w++) {
                x.hold(s, w, s + w > 0);
            }
        }
        due("rounds(20)", x.rounds(20), 1);
        due("many(4)", x.many(4), 0);
        due("it is moved by its water line", x.fair(0, 0), 1);
        due("and back by its station", x.fair(1, 0), 1);
        due("so that it is as PUT", x.ofPoint(0, 0, 2), 0);
    }

    private static void roundsThatNeverRest() {
        due("rounds(20)", restless().rounds(20), 20);
        due("rounds(19)", restless().rounds(19), 19);
        due("rounds(2)", restless().rounds(2), 2);
        due("rounds(1)", restless().rounds(1), 1);
    }

    private static void roundsRefused() {
        HullOffsets x = restless();
        String was = Hulls.seen(x);
        int[] outside = {0, 21, -1, MIN, MAX};
        for (int n : outside) {
            due("rounds(" + n + ")", x.rounds(n), HullOffsets.OUTSIDE);
        }
        CHECK.isTrue("refused rounds change nothing", was.equals(Hulls.seen(x)));
    }

    private static void back() {
        HullOffsets x = strict(Hulls.withLine0(5, 5, 5, 8, 14), 1);
        String was = Hulls.seen(x);
        due("back() with nothing moved", x.back(), 0);
        x.fair(0, 0);
        due("back()", x.back(), 2);
        same("all", Hulls.seen(x), was);
        due("back() again", x.back(), 0);
        x.fair(0, 0);
        x.offset(1, 0, 900);
        x.hold(4, 0, true);
        due("back() of a point put anew and one held", x.back(), 1);
        due("the point put anew", x.ofPoint(1, 0, 0), 900);
        due("the point held", x.ofPoint(4, 0, 0), 14);
        due("it is held still", x.ofPoint(4, 0, 1), 1);
        x = strict(Hulls.withStation0(5, 5, 5, 4), 1);
        due("fair(1, 0)", x.fair(1, 0), 1);
        due("back() of the first point", x.back(), 1);
        due("ofPoint(0, 0, 0)", x.ofPoint(0, 0, 0), 5);
    }
}
