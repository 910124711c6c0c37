/** Promises 18 to 21: height, breaks, worst, many. */
public final class ThirdViewTest {
    private static final Check CHECK = new Check("ThirdViewTest");
    private static final int MIN = Integer.MIN_VALUE;
    private static final int MAX = Integer.MAX_VALUE;

    public static void main(String[] args) {
        height();
        heightOfHollowStation();
        heightRefused();
        breaks();
        breaksByBound();
        breaksWithThirds();
        breaksWithoutHeights();
        breaksOfSmallerHull();
        breaksRefused();
        worst();
        worstAtTheEnds();
        many();
        manyUnfair();
        manyRefused();
        CHECK.end();
    }

    private static void due(String call, long got, long want) {
        CHECK.due(call, got, want);
    }

    private static void dueHeight(HullOffsets x, int station, int b, long upper, long lower) {
        due("height(" + station + ", " + b + ", 0)", x.height(station, b, 0), upper);
        due("height(" + station + ", " + b + ", 1)", x.height(station, b, 1), lower);
    }

    private static void height() {
        HullOffsets x = Hulls.withStation0(10, 20, 30, 40);
        dueHeight(x, 0, 1, 0, 1);
        dueHeight(x, 0, 10, 0, 1);
        dueHeight(x, 0, 11, 1, 10);
        dueHeight(x, 0, 15, 1, 2);
        dueHeight(x, 0, 20, 1, 1);
        dueHeight(x, 0, 25, 3, 2);
        dueHeight(x, 0, 39, 29, 10);
        dueHeight(x, 0, 40, 3, 1);
        dueHeight(x, 0, 41, HullOffsets.LOST, HullOffsets.LOST);
        dueHeight(x, 1, 1, HullOffsets.LOST, HullOffsets.LOST);
        x.offset(4, 3, 999);
        dueHeight(x, 4, 999, 3, 1);
        dueHeight(x, 4, 1, 1999, 999);
    }

    private static void heightOfHollowStation() {
        HullOffsets x = Hulls.withStation0(10, 5, 3, 30);
        dueHeight(x, 0, 10, 0, 1);
        dueHeight(x, 0, 12, 7, 3);
        x = Hulls.withStation0(20, 5, 30, 2);
        dueHeight(x, 0, 10, 0, 1);
        dueHeight(x, 0, 25, 9, 5);
        dueHeight(x, 0, 31, HullOffsets.LOST, HullOffsets.LOST);
        x = Hulls.withStation0(5, 7, 7, 9);
        dueHeight(x, 0, 7, 1, 1);
        dueHeight(x, 0, 8, 5, 2);
    }

    private static void heightRefused() {
        HullOffsets x = Hulls.withStation0(10, 20, 30, 999);
        int[][] lost = {{5, 1, 0}, {-1, 1, 0}, {MAX, 1, 0}, {MIN, 1, 0}, {0, 0, 0}, {0, 1000, 0}, {0, -1, 0},
            {0, MIN, 0}, {0, MAX, 0}, {0, 1, 2}, {0, 1, -1}, {0, 1, MAX}, {0, 1, MIN}};
        for (int[] of : lost) {
            due("height(" + of[0] + ", " + of[1] + ", " + of[2] + ")", x.height(of[0], of[1], of[2]), HullOffsets.LOST);
        }
        x.hull(9, 7);
        due("height(9, 1, 0) of 9 stations", x.height(9, 1, 0), HullOffsets.LOST);
    }

    /** Straight sides, 100 broader a water line, but for station 2, which is broad too early. */
    private static HullOffsets earlyAtTwo() {
        int[] straight = {0, 100, 200, 300};
        return Hulls.of(new int[][] {straight, straight, {0, 50, 200, 300}, straight, straight});
    }

    private static void breaks() {
        HullOffsets x = earlyAtTwo();
        // Heights at 50 are a half, and 1 at station 2: 3 halves off both ways.
        due("breaks(50)", x.breaks(50), 2);
        due("breaks(300)", x.breaks(300), 0);
        due("breaks(301)", x.breaks(301), 0);
        due("breaks(4), 12 off", x.breaks(4), 2);
        due("breaks(3), 9 off", x.breaks(3), 0);
        due("breaks of a new hull", new HullOffsets().breaks(1), 0);
    }

    private static void breaksByBound() {
        HullOffsets x = earlyAtTwo();
        x.setting(0, 149);
        due("breaks(50), BOUND 149", x.breaks(50), 2);
        x.setting(0, 150);
        due("breaks(50), BOUND 150", x.breaks(50), 0);
        x.setting(0, 0);
        due("breaks(1), BOUND 0", x.breaks(1), 2);
        due("breaks(200), BOUND 0", x.breaks(200), 0);
    }

    private static void breaksWithThirds() {
        int[] low = {100, 100, 100, 100};
        HullOffsets x = Hulls.of(new int[][] {{0, 300, 300, 300}, low, low, low, low});
        x.setting(0, 33);
        due("33 and a third, BOUND 33", x.breaks(100), 1);
        x.setting(0, 34);
        due("33 and a third, BOUND 34", x.breaks(100), 0);
        // Lower numbers as large as can be: 998 by 999 is just so much less than 1.
        x = Hulls.of(new int[][] {{0, 999, 0, 0}, low, low, low, {0, 999, 0, 0}});
        for (int s = 1; s < 4; s++) {
            x.offset(s, 0, 998);
        }
        x.setting(0, 99);
        due("100 times 998 by 999, BOUND 99", x.breaks(998), 2);
        x.setting(0, 100);
        due("100 times 998 by 999, BOUND 100", x.breaks(998), 0);
    }

    private static void breaksWithoutHeights() {
        HullOffsets x = earlyAtTwo();
        for (int w = 0; w < 4; w++) {
            x.offset(0, w, 49);
        }
        due("station 0 has no height", x.breaks(50), 1);
        due("station 0 has a height of 0", x.breaks(49), 2);
        for (int w = 0; w < 4; w++) {
            x.offset(4, w, 0);
        }
        due("nor has station 4", x.breaks(50), 0);
    }

    private static void breaksOfSmallerHull() {
        HullOffsets x = new HullOffsets();
        x.hull(9, 7);
        for (int s = 0; s < 9; s++) {
            x.offset(s, 0, s % 2 == 0 ? 0 : 5);
            x.offset(s, 6, 5);
        }
        due("breaks(5) of 9 stations", x.breaks(5), 6);
        x.hull(5, 4);
        for (int s = 0; s < 5; s++) {
            x.offset(s, 0, s == 0 ? 0 : 5);
            x.offset(s, 3, 5);
        }
        due("stations that are gone make no breaks", x.breaks(5), 1);
    }

    private static void breaksRefused() {
        HullOffsets x = earlyAtTwo();
        int[] outside = {0, 1000, -1, MIN, MAX};
        for (int b : outside) {
            due("breaks(" + b + ")", x.breaks(b), HullOffsets.OUTSIDE);
        }
        due("breaks(1)", x.breaks(1), 0);
        due("breaks(999)", x.breaks(999), 0);
    }

    private static void worst() {
        HullOffsets x = earlyAtTwo();
        // How far off it is: 3 times b up to 50, 149 at 51, less behind.
        x.setting(0, 149);
        due("worst(), BOUND 149", x.worst(), 50);
        x.setting(0, 148);
        due("worst(), BOUND 148", x.worst(), 50);
        x.setting(0, 146);
        due("worst(), BOUND 146", x.worst(), 49);
        x.setting(0, 150);
        due("worst() without breaks", x.worst(), 1);
        due("worst() of a new hull", new HullOffsets().worst(), 1);
        // One break from 1 on, two from 200 on: the most, not the first.
        x = Hulls.of(new int[][] {{0, 1, 2, 999}, new int[] {500, 500, 500, 500}, {500, 500, 500, 500},
            {500, 500, 500, 500}, {199, 500, 500, 500}});
        x.setting(0, 0);
        due("breaks(1)", x.breaks(1), 1);
        due("breaks(199)", x.breaks(199), 1);
        due("breaks(200)", x.breaks(200), 2);
        due("worst() is where the most are", x.worst(), 200);
    }

    private static void worstAtTheEnds() {
        int[] last = {998, 999, 999, 999};
        HullOffsets x = Hulls.of(new int[][] {{999, 999, 999, 999}, last, last, last, last});
        x.setting(0, 99);
        due("worst() at 999", x.worst(), 999);
        x.setting(0, 100);
        due("worst() at 999, BOUND 100", x.worst(), 1);
        // At 1 the stations' heights are far apart; at 2 there are fewer that have one.
        int[] one = {0, 1, 1, 1};
        x = Hulls.of(new int[][] {{1, 1, 1, 1}, one, one, one, {0, 0, 2, 2}});
        x.setting(0, 0);
        due("breaks(1)", x.breaks(1), 2);
        due("worst() at 1", x.worst(), 1);
    }

    private static void many() {
        HullOffsets x = Hulls.withStation0(5, 5, 5, 8);
        due("many(0)", x.many(0), 5);
        due("many(1)", x.many(1), 4);
        due("many(2)", x.many(2), 0);
        x.hold(0, 0, true);
        x.hold(4, 3, true);
        x.hold(4, 3, true);
        due("many(2), 2 held", x.many(2), 2);
        x.hold(0, 0, false);
        due("many(2), 1 held", x.many(2), 1);
        due("many(4), none moved", x.many(4), 0);
        x = Hulls.withStation0(50, 50, 50, 74);
        x.setting(0, 0);
        x.setting(1, 3);
        x.fair(1, 0);
        due("many(4), ups and downs", x.many(4), 12);
        x.offset(0, 0, 40);
        due("many(4), one put anew", x.many(4), 9);
        x.back();
        due("many(4), all back", x.many(4), 0);
    }

    private static void manyUnfair() {
        HullOffsets x = new HullOffsets();
        due("many(3) of a new hull", x.many(3), 0);
        x.offset(3, 2, 4);
        due("many(3), a water line and a station", x.many(3), 2);
        x.setting(0, 12);
        due("many(3), BOUND 12", x.many(3), 0);
        x.setting(0, 11);
        due("many(3), BOUND 11", x.many(3), 2);
        for (int w = 0; w < 5; w++) {
            x.offset(3, w, 4);
        }
        due("many(3), all water lines", x.many(3), 5);
        x.hull(7, 5);
        for (int s = 0; s < 7; s++) {
            x.offset(s, 4, 12);
        }
        due("many(3), all stations", x.many(3), 7);
    }

    private static void manyRefused() {
        HullOffsets x = new HullOffsets();
        int[] outside = {-1, 5, MIN, MAX};
        for (int what : outside) {
            due("many(" + what + ")", x.many(what), HullOffsets.OUTSIDE);
        }
    }
}
