/** Promises 1 to 10: a new object, hull, offset, hold, setting, ofPoint, bend, jump, roughest, rough. */
public final class OffsetsTest {
    private static final Check CHECK = new Check("OffsetsTest");
    private static final int MIN = Integer.MIN_VALUE;
    private static final int MAX = Integer.MAX_VALUE;

    /** No two lines alike; all jumps can be told by hand. */
    private static final int[][] HULL = {
        {10, 20, 30, 40}, {14, 26, 37, 44}, {15, 31, 40, 47}, {13, 25, 36, 45}, {9, 19, 31, 41}};

    public static void main(String[] args) {
        newObject();
        hull();
        hullIsNew();
        offset();
        offsetOfMovedPoint();
        hold();
        setting();
        ofPoint();
        bend();
        jump();
        roughest();
        roughestOfSeveral();
        rough();
        roughByBound();
        CHECK.end();
    }

    private static void due(String call, long got, long want) {
        CHECK.due(call, got, want);
    }

    private static void newObject() {
        HullOffsets x = new HullOffsets();
        due("new: many(0)", x.many(0), 7);
        due("new: many(1)", x.many(1), 5);
        for (int s = 0; s < 7; s++) {
            for (int w = 0; w < 5; w++) {
                for (int what = 0; what <= 2; what++) {
                    due("new: ofPoint(" + s + ", " + w + ", " + what + ")", x.ofPoint(s, w, what), 0);
                }
            }
        }
        due("new: ofPoint(7, 0, 0)", x.ofPoint(7, 0, 0), HullOffsets.UNKNOWN);
        due("new: ofPoint(0, 5, 0)", x.ofPoint(0, 5, 0), HullOffsets.UNKNOWN);
        due("new: BOUND", x.setting(0, 0), 10);
        due("new: REACH", x.setting(1, 0), 2);
        due("new: LONG", x.setting(2, 1), 10);
        due("new: HIGH", x.setting(3, 1), 5);
    }

    private static void hull() {
        HullOffsets x = Hulls.of(HULL);
        String was = Hulls.seen(x);
        int[][] outside = {{4, 4}, {10, 4}, {5, 3}, {5, 8}, {0, 0}, {-5, -4}, {MIN, 4}, {MAX, 4}, {5, MIN}, {5, MAX}};
        for (int[] sizes : outside) {
            due("hull(" + sizes[0] + ", " + sizes[1] + ")", x.hull(sizes[0], sizes[1]), HullOffsets.OUTSIDE);
        }
        CHECK.isTrue("refused hulls change nothing", was.equals(Hulls.seen(x)));
        for (int s = 5; s <= 9; s++) {
            for (int w = 4; w <= 7; w++) {
                due("hull(" + s + ", " + w + ")", x.hull(s, w), 1);
                due("many(0)", x.many(0), s);
                due("many(1)", x.many(1), w);
                due("the last point", x.ofPoint(s - 1, w - 1, 0), 0);
                due("a station more", x.ofPoint(s, w - 1, 0), HullOffsets.UNKNOWN);
                due("a water line more", x.ofPoint(s - 1, w, 0), HullOffsets.UNKNOWN);
            }
        }
    }

    private static void hullIsNew() {
        HullOffsets x = new HullOffsets();
        for (int k = 0; k < 4; k++) {
            x.setting(k, 3);
        }
        x.hull(9, 7);
        x.offset(8, 6, 500);
        x.hold(8, 6, true);
        x.offset(0, 0, 7);
        x.hold(0, 0, true);
        due("hull(9, 7) again", x.hull(9, 7), 1);
        for (int what = 0; what <= 2; what++) {
            due("ofPoint(8, 6, " + what + ")", x.ofPoint(8, 6, what), 0);
            due("ofPoint(0, 0, " + what + ")", x.ofPoint(0, 0, what), 0);
        }
        due("back() has nothing to change", x.back(), 0);
        due("many(2)", x.many(2), 0);
        x.offset(8, 6, 500);
        x.hold(8, 6, true);
        x.hull(5, 4);
        x.hull(9, 7);
        due("what a smaller hull did not have is gone", x.ofPoint(8, 6, 0), 0);
        due("what a smaller hull did not hold is free", x.ofPoint(8, 6, 1), 0);
        for (int k = 0; k < 4; k++) {
            due("setting " + k + " stays", Hulls.settingOf(x, k), 3);
        }
    }

    private static void offset() {
        HullOffsets x = new HullOffsets();
        due("offset(0, 0, 999)", x.offset(0, 0, 999), 0);
        due("offset(0, 0, 0)", x.offset(0, 0, 0), 999);
        due("offset(6, 4, 17)", x.offset(6, 4, 17), 0);
        due("offset(6, 4, 17) again", x.offset(6, 4, 17), 17);
        x.hold(6, 4, true);
        due("offset of a held point", x.offset(6, 4, 18), 17);
        String was = Hulls.seen(x);
        int[][] unknown = {{7, 0}, {-1, 0}, {0, 5}, {0, -1}, {MAX, 0}, {MIN, 0}, {0, MAX}, {0, MIN}};
        for (int[] point : unknown) {
            due("offset(" + point[0] + ", " + point[1] + ", 5)", x.offset(point[0], point[1], 5), HullOffsets.UNKNOWN);
            due("unknown ahead of outside", x.offset(point[0], point[1], -1), HullOffsets.UNKNOWN);
        }
        int[] outside = {-1, 1000, MIN, MAX};
        for (int v : outside) {
            due("offset(6, 4, " + v + ")", x.offset(6, 4, v), HullOffsets.OUTSIDE);
        }
        CHECK.isTrue("refused offsets change nothing", was.equals(Hulls.seen(x)));
    }

    private static void offsetOfMovedPoint() {
        HullOffsets x = Hulls.withStation0(5, 5, 5, 6);
        x.setting(0, 0);
        x.fair(1, 0);
        due("offset less PUT behind fair", x.ofPoint(0, 3, 2), -1);
        due("offset tells what it was, not PUT", x.offset(0, 3, 9), 5);
        due("offset less PUT behind offset", x.ofPoint(0, 3, 2), 0);
    }

    private static void hold() {
        HullOffsets x = new HullOffsets();
        due("hold(6, 4, false)", x.hold(6, 4, false), 0);
        due("hold(6, 4, true)", x.hold(6, 4, true), 1);
        due("hold(6, 4, true) again", x.hold(6, 4, true), 0);
        due("ofPoint(6, 4, 1)", x.ofPoint(6, 4, 1), 1);
        due("ofPoint(4, 4, 1)", x.ofPoint(4, 4, 1), 0);
        due("hold(6, 4, false) then", x.hold(6, 4, false), 1);
        due("ofPoint(6, 4, 1) then", x.ofPoint(6, 4, 1), 0);
        String was = Hulls.seen(x);
        int[][] unknown = {{7, 0}, {-1, 0}, {0, 5}, {0, -1}, {MAX, MAX}, {MIN, MIN}};
        for (int[] point : unknown) {
            due("hold(" + point[0] + ", " + point[1] + ", true)", x.hold(point[0], point[1], true), HullOffsets.UNKNOWN);
            due("hold(" + point[0] + ", " + point[1] + ", false)", x.hold(point[0], point[1], false), HullOffsets.UNKNOWN);
        }
        CHECK.isTrue("refused holds change nothing", was.equals(Hulls.seen(x)));
    }

    private static void setting() {
        HullOffsets x = new HullOffsets();
        int[] low = {0, 0, 1, 1};
        int[] top = {999, 3, 99, 99};
        int[] first = {10, 2, 10, 5};
        for (int k = 0; k < 4; k++) {
            due("setting(" + k + ", low)", x.setting(k, low[k]), first[k]);
            due("setting(" + k + ", top)", x.setting(k, top[k]), low[k]);
            int[] outside = {low[k] - 1, top[k] + 1, MIN, MAX};
            for (int v : outside) {
                due("setting(" + k + ", " + v + ")", x.setting(k, v), HullOffsets.OUTSIDE);
            }
            due("setting " + k + " is the top", Hulls.settingOf(x, k), top[k]);
        }
        int[] noSetting = {-1, 4, MIN, MAX};
        for (int k : noSetting) {
            due("setting(" + k + ", 1)", x.setting(k, 1), HullOffsets.OUTSIDE);
        }
    }

    private static void ofPoint() {
        HullOffsets x = Hulls.withStation0(5, 5, 5, 8);
        x.setting(0, 0);
        x.hold(0, 1, true);
        x.fair(1, 0);
        due("its offset", x.ofPoint(0, 2, 0), 6);
        due("not held", x.ofPoint(0, 2, 1), 0);
        due("moved up", x.ofPoint(0, 2, 2), 1);
        due("held", x.ofPoint(0, 1, 1), 1);
        due("not moved", x.ofPoint(0, 1, 2), 0);
        int[] outside = {-1, 3, MIN, MAX};
        for (int what : outside) {
            due("ofPoint(0, 0, " + what + ")", x.ofPoint(0, 0, what), HullOffsets.OUTSIDE);
            due("ofPoint(5, 0, " + what + ")", x.ofPoint(5, 0, what), HullOffsets.UNKNOWN);
            due("ofPoint(0, 4, " + what + ")", x.ofPoint(0, 4, what), HullOffsets.UNKNOWN);
        }
        due("ofPoint(-1, 0, 0)", x.ofPoint(-1, 0, 0), HullOffsets.UNKNOWN);
        due("ofPoint(0, -1, 0)", x.ofPoint(0, -1, 0), HullOffsets.UNKNOWN);
    }

    private static void bend() {
        HullOffsets x = Hulls.of(HULL);
        due("bend(0, 1, 1)", x.bend(0, 1, 1), 20 + 31 - 2 * 26);
        due("bend(0, 1, 2)", x.bend(0, 1, 2), 26 + 25 - 2 * 31);
        due("bend(0, 1, 3)", x.bend(0, 1, 3), 31 + 19 - 2 * 25);
        due("bend(0, 3, 3)", x.bend(0, 3, 3), 47 + 41 - 2 * 45);
        due("bend(1, 1, 1)", x.bend(1, 1, 1), 14 + 37 - 2 * 26);
        due("bend(1, 4, 2)", x.bend(1, 4, 2), 19 + 41 - 2 * 31);
        int[] noBend0 = {0, 4, -1, 5, MIN, MAX};
        for (int i : noBend0) {
            due("bend(0, 1, " + i + ")", x.bend(0, 1, i), HullOffsets.OUTSIDE);
        }
        int[] noBend1 = {0, 3, -1, 4, MIN, MAX};
        for (int i : noBend1) {
            due("bend(1, 1, " + i + ")", x.bend(1, 1, i), HullOffsets.OUTSIDE);
        }
        due("bend(2, 9, 0)", x.bend(2, 9, 0), HullOffsets.OUTSIDE);
        due("bend(-1, 9, 0)", x.bend(-1, 9, 0), HullOffsets.OUTSIDE);
        due("bend(0, 4, 0)", x.bend(0, 4, 0), HullOffsets.UNKNOWN);
        due("bend(0, -1, 1)", x.bend(0, -1, 1), HullOffsets.UNKNOWN);
        due("bend(1, 5, 0)", x.bend(1, 5, 0), HullOffsets.UNKNOWN);
        due("bend(1, 4, 1)", x.bend(1, 4, 1), 9 + 31 - 2 * 19);
    }

    private static void jump() {
        HullOffsets x = Hulls.of(HULL);
        due("jump(0, 1, 1)", x.jump(0, 1, 1), -11 - -1);
        due("jump(0, 1, 2)", x.jump(0, 1, 2), 0 - -11);
        due("jump(1, 1, 1)", x.jump(1, 1, 1), (26 + 44 - 2 * 37) - (14 + 37 - 2 * 26));
        int[] noJump0 = {0, 3, 4, -1, MIN, MAX};
        for (int i : noJump0) {
            due("jump(0, 1, " + i + ")", x.jump(0, 1, i), HullOffsets.OUTSIDE);
        }
        int[] noJump1 = {0, 2, 3, -1, MIN, MAX};
        for (int i : noJump1) {
            due("jump(1, 1, " + i + ")", x.jump(1, 1, i), HullOffsets.OUTSIDE);
        }
        due("jump(2, 9, 0)", x.jump(2, 9, 0), HullOffsets.OUTSIDE);
        due("jump(-1, 9, 0)", x.jump(-1, 9, 0), HullOffsets.OUTSIDE);
        due("jump(0, 4, 0)", x.jump(0, 4, 0), HullOffsets.UNKNOWN);
        due("jump(0, -1, 1)", x.jump(0, -1, 1), HullOffsets.UNKNOWN);
        due("jump(1, 5, 0)", x.jump(1, 5, 0), HullOffsets.UNKNOWN);
        x = Hulls.withStation0(0, 999, 0, 999);
        due("the farthest jump up", x.jump(1, 0, 1), 4 * 999);
        x = Hulls.withStation0(999, 0, 999, 0);
        due("the farthest jump down", x.jump(1, 0, 1), -4 * 999);
    }

    private static void duePlace(HullOffsets x, int far, int view, int k, int i) {
        due("roughest(0)", x.roughest(0), far);
        due("roughest(1)", x.roughest(1), view);
        due("roughest(2)", x.roughest(2), k);
        due("roughest(3)", x.roughest(3), i);
    }

    private static void roughest() {
        duePlace(new HullOffsets(), 0, 0, 0, 1);
        duePlace(Hulls.of(HULL), 11, 0, 1, 2);
        HullOffsets x = new HullOffsets();
        int[] outside = {-1, 4, MIN, MAX};
        for (int what : outside) {
            due("roughest(" + what + ")", x.roughest(what), HullOffsets.OUTSIDE);
        }
    }

    private static void roughestOfSeveral() {
        // Alone in its line and in its station a point of 10 makes jumps of 30 on both sides of it.
        HullOffsets x = new HullOffsets();
        x.offset(3, 2, 10);
        duePlace(x, 30, 0, 2, 2);
        // Alike in all water lines, it makes jumps in view 0 alone; the first line is the one.
        for (int w = 0; w < 5; w++) {
            x.offset(3, w, 10);
        }
        duePlace(x, 30, 0, 0, 2);
        // Alike at all stations, in view 1 alone.
        x.hull(7, 5);
        for (int s = 0; s < 7; s++) {
            x.offset(s, 2, 10);
        }
        duePlace(x, 30, 1, 0, 1);
        x.offset(6, 4, 9);
        duePlace(x, 39, 1, 6, 2);
        // The last point comes into one jump of its line, and but once: less far there than at the station's.
        x.hull(5, 4);
        x.offset(4, 1, 10);
        duePlace(x, 30, 1, 4, 1);
    }

    private static void rough() {
        HullOffsets x = Hulls.of(HULL);
        x.setting(0, 2);
        due("rough(0, 1)", x.rough(0, 1), 2);
        due("rough(1, 0)", x.rough(1, 0), 0);
        due("rough(2, 9)", x.rough(2, 9), HullOffsets.OUTSIDE);
        due("rough(-1, 9)", x.rough(-1, 9), HullOffsets.OUTSIDE);
        due("rough(MIN, 0)", x.rough(MIN, 0), HullOffsets.OUTSIDE);
        due("rough(0, 4)", x.rough(0, 4), HullOffsets.UNKNOWN);
        due("rough(0, -1)", x.rough(0, -1), HullOffsets.UNKNOWN);
        due("rough(1, 5)", x.rough(1, 5), HullOffsets.UNKNOWN);
        due("rough(1, MAX)", x.rough(1, MAX), HullOffsets.UNKNOWN);
        due("rough(1, 4)", x.rough(1, 4), 1);
    }

    private static void roughByBound() {
        HullOffsets x = Hulls.of(HULL);
        x.setting(0, 9);
        due("jumps -10 and 11, BOUND 9", x.rough(0, 1), 2);
        x.setting(0, 10);
        due("jumps -10 and 11, BOUND 10", x.rough(0, 1), 1);
        x.setting(0, 11);
        due("jumps -10 and 11, BOUND 11", x.rough(0, 1), 0);
        x = new HullOffsets();
        x.setting(0, 0);
        due("jumps of 0, BOUND 0", x.rough(0, 0), 0);
        x.offset(3, 0, 1);
        due("jumps 1, -3, 3, -1, BOUND 0", x.rough(0, 0), 4);
    }
}
