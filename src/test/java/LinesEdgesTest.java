/** The edges of promises 7 to 10, each by a case of its own: bend, jump, roughest, rough. */
public final class LinesEdgesTest {
    private static final String[] FAR_OFF = {"MIN", "MAX", "256", "65536", "1073741824", "-2147483647"};

    public static void main(String[] args) {
        Cases.run(LinesEdgesTest.class, 7, 10);
    }

    private static String call(String method, Object... arguments) {
        return Run.call(method, arguments);
    }

    /** Offsets of which each bend and jump can be told by hand; nothing is held or moved. */
    private static Run plain(Run x) {
        return x.hull(new int[][] {
            {10, 20, 30, 40}, {14, 26, 37, 44}, {15, 31, 40, 47}, {13, 25, 36, 45}, {9, 19, 31, 41}});
    }

    // ---- promise 7: bend

    static void p07ViewBelow0(Run x) {
        x.worn().outside("bend(-1, 0, 1)");
    }

    static void p07View0(Run x) {
        plain(x).due("bend(0, 1, 2)", 26 + 25 - 2 * 31);
    }

    static void p07View1(Run x) {
        plain(x).due("bend(1, 1, 2)", 26 + 44 - 2 * 37);
    }

    static void p07ViewAbove1(Run x) {
        x.worn().outside("bend(2, 0, 1)");
    }

    static void p07LineBelow0(Run x) {
        x.worn().unknown("bend(0, -1, 1)");
        x.worn().unknown("bend(1, -1, 1)");
    }

    static void p07FirstLine(Run x) {
        plain(x).due("bend(0, 0, 1)", 10 + 15 - 2 * 14);
        x.due("bend(1, 0, 1)", 10 + 30 - 2 * 20);
    }

    static void p07LastLine(Run x) {
        plain(x).due("bend(0, 3, 1)", 40 + 47 - 2 * 44);
        x.due("bend(1, 4, 1)", 9 + 31 - 2 * 19);
    }

    static void p07LineBehindTheLast(Run x) {
        x.worn().unknown("bend(0, 4, 1)");
        x.worn().unknown("bend(1, 5, 1)");
        x.wornLarge().unknown("bend(0, 7, 1)");
        x.wornLarge().unknown("bend(1, 9, 1)");
    }

    static void p07NoPointAheadOfTheFirst(Run x) {
        x.worn().outside("bend(0, 0, -1)");
        x.worn().outside("bend(1, 0, -1)");
    }

    static void p07NoneAtTheFirstPoint(Run x) {
        x.worn().outside("bend(0, 1, 0)");
        x.worn().outside("bend(1, 1, 0)");
    }

    static void p07AtTheSecondPoint(Run x) {
        plain(x).due("bend(0, 1, 1)", 20 + 31 - 2 * 26);
        x.due("bend(1, 1, 1)", 14 + 37 - 2 * 26);
    }

    static void p07AtTheLastPointButOne(Run x) {
        plain(x).due("bend(0, 1, 3)", 31 + 19 - 2 * 25);
        x.due("bend(1, 1, 2)", 26 + 44 - 2 * 37);
    }

    static void p07NoneAtTheLastPoint(Run x) {
        x.worn().outside("bend(0, 1, 4)");
        x.worn().outside("bend(1, 1, 3)");
        x.wornLarge().outside("bend(0, 1, 8)");
        x.wornLarge().outside("bend(1, 1, 6)");
    }

    static void p07NoPointBehindTheLast(Run x) {
        x.worn().outside("bend(0, 1, 5)");
        x.worn().outside("bend(1, 1, 4)");
        x.wornLarge().outside("bend(0, 1, 9)");
        x.wornLarge().outside("bend(1, 1, 7)");
    }

    static void p07EverySize(Run x) {
        x.everySize((y, s, w) -> {
            dueBendsFrom1To(y, 0, w - 1, s - 2);
            dueBendsFrom1To(y, 1, s - 1, w - 2);
            y.due(call("bend", 0, w, 1), HullOffsets.UNKNOWN);
            y.due(call("bend", 1, s, 1), HullOffsets.UNKNOWN);
        });
    }

    private static void dueBendsFrom1To(Run x, int view, int k, int last) {
        x.due(call("bend", view, k, 0), HullOffsets.OUTSIDE);
        x.due(call("bend", view, k, 1), 0);
        x.due(call("bend", view, k, last), 0);
        x.due(call("bend", view, k, last + 1), HullOffsets.OUTSIDE);
    }

    static void p07FarOff(Run x) {
        for (String far : FAR_OFF) {
            x.worn().outside(call("bend", far, 0, 1));
            x.worn().unknown(call("bend", 0, far, 1));
            x.worn().unknown(call("bend", 1, far, 1));
            x.worn().outside(call("bend", 0, 0, far));
            x.worn().outside(call("bend", 1, 0, far));
        }
    }

    static void p07ViewAheadOfLine(Run x) {
        x.worn().outside("bend(2, 99, 1)");
        x.worn().outside("bend(-1, -1, 1)");
    }

    static void p07LineAheadOfPoint(Run x) {
        x.worn().unknown("bend(0, 4, 0)");
        x.worn().unknown("bend(0, -1, 4)");
        x.worn().unknown("bend(1, 5, 0)");
        x.worn().unknown("bend(1, -1, 3)");
    }

    static void p07Greatest(Run x) {
        x.station(999, 0, 999, 0).due("bend(1, 0, 1)", 1998);
    }

    static void p07Least(Run x) {
        x.station(0, 999, 0, 999).due("bend(1, 0, 1)", -1998);
    }

    static void p07ChangesNothing(Run x) {
        x.worn().changesNothing("bend(0, 1, 2)");
        x.worn().changesNothing("bend(1, 1, 2)");
    }

    // ---- promise 8: jump

    static void p08ViewBelow0(Run x) {
        x.worn().outside("jump(-1, 0, 1)");
    }

    static void p08View0(Run x) {
        // Bends of water line 1 are -1, -11, 0.
        plain(x).due("jump(0, 1, 1)", -10);
    }

    static void p08View1(Run x) {
        // Bends of station 1 are -1, -4.
        plain(x).due("jump(1, 1, 1)", -3);
    }

    static void p08ViewAbove1(Run x) {
        x.worn().outside("jump(2, 0, 1)");
    }

    static void p08LineBelow0(Run x) {
        x.worn().unknown("jump(0, -1, 1)");
        x.worn().unknown("jump(1, -1, 1)");
    }

    static void p08FirstLine(Run x) {
        // Bends of water line 0 are -3, -3, -2, those of station 0 all 0.
        plain(x).due("jump(0, 0, 2)", 1);
        x.due("jump(1, 0, 1)", 0);
    }

    static void p08LastLine(Run x) {
        // Bends of water line 3 are -1, -5, -2, those of station 4 are 2, -2.
        plain(x).due("jump(0, 3, 2)", 3);
        x.due("jump(1, 4, 1)", -4);
    }

    static void p08LineBehindTheLast(Run x) {
        x.worn().unknown("jump(0, 4, 1)");
        x.worn().unknown("jump(1, 5, 1)");
        x.wornLarge().unknown("jump(0, 7, 1)");
        x.wornLarge().unknown("jump(1, 9, 1)");
    }

    static void p08NoPointAheadOfTheFirst(Run x) {
        x.worn().outside("jump(0, 0, -1)");
        x.worn().outside("jump(1, 0, -1)");
    }

    static void p08NoneAtTheFirstPoint(Run x) {
        x.worn().outside("jump(0, 1, 0)");
        x.worn().outside("jump(1, 1, 0)");
    }

    static void p08AtTheSecondPoint(Run x) {
        plain(x).due("jump(0, 3, 1)", -4);
        x.due("jump(1, 3, 1)", (25 + 45 - 2 * 36) - (13 + 36 - 2 * 25));
    }

    static void p08AtTheLastPointButTwo(Run x) {
        plain(x).due("jump(0, 1, 2)", 11);
        x.station(0, 0, 0, 0, 0, 0, 7).due("jump(1, 0, 4)", 7);
    }

    static void p08NoneAtTheLastPointButOne(Run x) {
        // There is a bend at it, but none behind.
        x.worn().outside("jump(0, 1, 3)");
        x.worn().outside("jump(1, 1, 2)");
        x.wornLarge().outside("jump(0, 1, 7)");
        x.wornLarge().outside("jump(1, 1, 5)");
    }

    static void p08NoneAtTheLastPoint(Run x) {
        x.worn().outside("jump(0, 1, 4)");
        x.worn().outside("jump(1, 1, 3)");
    }

    static void p08NoPointBehindTheLast(Run x) {
        x.worn().outside("jump(0, 1, 5)");
        x.worn().outside("jump(1, 1, 4)");
    }

    static void p08EverySize(Run x) {
        x.everySize((y, s, w) -> {
            dueJumpsFrom1To(y, 0, w - 1, s - 3);
            dueJumpsFrom1To(y, 1, s - 1, w - 3);
            y.due(call("jump", 0, w, 1), HullOffsets.UNKNOWN);
            y.due(call("jump", 1, s, 1), HullOffsets.UNKNOWN);
        });
    }

    private static void dueJumpsFrom1To(Run x, int view, int k, int last) {
        x.due(call("jump", view, k, 0), HullOffsets.OUTSIDE);
        x.due(call("jump", view, k, 1), 0);
        x.due(call("jump", view, k, last), 0);
        x.due(call("jump", view, k, last + 1), HullOffsets.OUTSIDE);
    }

    static void p08FarOff(Run x) {
        for (String far : FAR_OFF) {
            x.worn().outside(call("jump", far, 0, 1));
            x.worn().unknown(call("jump", 0, far, 1));
            x.worn().unknown(call("jump", 1, far, 1));
            x.worn().outside(call("jump", 0, 0, far));
            x.worn().outside(call("jump", 1, 0, far));
        }
    }

    static void p08ViewAheadOfLine(Run x) {
        x.worn().outside("jump(2, 99, 1)");
        x.worn().outside("jump(-1, -1, 1)");
    }

    static void p08LineAheadOfPoint(Run x) {
        x.worn().unknown("jump(0, 4, 0)");
        x.worn().unknown("jump(0, -1, 3)");
        x.worn().unknown("jump(1, 5, 0)");
        x.worn().unknown("jump(1, -1, 2)");
    }

    static void p08Greatest(Run x) {
        x.station(0, 999, 0, 999).due("jump(1, 0, 1)", 3996);
    }

    static void p08Least(Run x) {
        x.station(999, 0, 999, 0).due("jump(1, 0, 1)", -3996);
    }

    static void p08ChangesNothing(Run x) {
        x.worn().changesNothing("jump(0, 1, 2)");
        x.worn().changesNothing("jump(1, 1, 1)");
    }

    // ---- promise 9: roughest

    private static void duePlace(Run x, int far, int view, int k, int i) {
        x.due("roughest(0)", far);
        x.due("roughest(1)", view);
        x.due("roughest(2)", k);
        x.due("roughest(3)", i);
    }

    static void p09WhatBelow0(Run x) {
        x.worn().outside("roughest(-1)");
    }

    static void p09What0To3(Run x) {
        duePlace(plain(x), 11, 0, 1, 2);
    }

    static void p09WhatAbove3(Run x) {
        x.worn().outside("roughest(4)");
    }

    static void p09WhatFarOff(Run x) {
        for (String far : FAR_OFF) {
            x.worn().outside(call("roughest", far));
        }
    }

    static void p09NoJumpAtAll(Run x) {
        duePlace(x, 0, 0, 0, 1);
    }

    static void p09NoJumpAtAllInEverySize(Run x) {
        x.everySize((y, s, w) -> duePlace(y, 0, 0, 0, 1));
    }

    static void p09FarBelow0(Run x) {
        x.station(0, 0, 13, 1, 0).due("jump(1, 0, 1)", 1 - 3 * 13).due("jump(1, 0, 2)", 3 * 13 - 3);
        duePlace(x, 38, 1, 0, 1);
    }

    static void p09OneFartherThanTheFirst(Run x) {
        x.waterLine(0, 0, 0, 3, 0, 0, 0).due("jump(0, 0, 2)", -9).due("jump(0, 0, 3)", 9);
        duePlace(x, 9, 0, 0, 2);
        x.after("offset(5, 0, 1)").due("jump(0, 0, 2)", -9).due("jump(0, 0, 3)", 10);
        duePlace(x, 10, 0, 0, 3);
    }

    static void p09OfSeveralTheFirstPoint(Run x) {
        x.waterLine(0, 0, 0, 0, 5, 0, 0, 0, 0).due("jump(0, 0, 3)", -15).due("jump(0, 0, 4)", 15);
        duePlace(x, 15, 0, 0, 3);
    }

    static void p09OfSeveralTheFirstLine(Run x) {
        x.after("hull(7, 5)", "offset(3, 1, 5)", "offset(3, 3, 5)");
        x.due("jump(0, 3, 2)", -15).due("jump(0, 1, 2)", -15);
        // Station 3 has jumps of 20 between the two; they are evened out by its other points.
        x.after("offset(3, 0, 5)", "offset(3, 2, 5)", "offset(3, 4, 5)");
        duePlace(x, 15, 0, 0, 2);
    }

    static void p09OfSeveralTheFirstView(Run x) {
        x.after("offset(3, 2, 5)").due("jump(1, 3, 1)", -15).due("jump(0, 2, 2)", -15);
        duePlace(x, 15, 0, 2, 2);
    }

    static void p09FartherInView1(Run x) {
        // At the first station a point comes into its water line's jumps once, into its station's thrice.
        x.after("offset(0, 2, 5)").due("jump(0, 2, 1)", -5).due("jump(1, 0, 1)", -15);
        duePlace(x, 15, 1, 0, 1);
    }

    static void p09LastJumpOfView0(Run x) {
        // Alike at the last station's points, so that the station itself has no jump.
        x.after("hull(9, 4)");
        for (int w = 0; w < 4; w++) {
            x.after(call("offset", 8, w, 4));
        }
        duePlace(x, 4, 0, 0, 6);
        x.after("offset(8, 3, 5)");
        duePlace(x, 5, 0, 3, 6);
    }

    static void p09LastJumpOfView1(Run x) {
        x.after("hull(5, 7)");
        for (int s = 0; s < 5; s++) {
            x.after(call("offset", s, 6, 4));
        }
        duePlace(x, 4, 1, 0, 4);
        x.after("offset(4, 6, 5)");
        duePlace(x, 5, 1, 4, 4);
    }

    static void p09Greatest(Run x) {
        x.station(999, 0, 999, 0);
        duePlace(x, 3996, 1, 0, 1);
    }

    static void p09BoundDoesNotTell(Run x) {
        duePlace(plain(x).bound(999), 11, 0, 1, 2);
    }

    static void p09ChangesNothing(Run x) {
        for (int what = 0; what <= 3; what++) {
            x.worn().changesNothing(call("roughest", what));
        }
    }

    // ---- promise 10: rough

    static void p10ViewBelow0(Run x) {
        x.worn().outside("rough(-1, 0)");
    }

    static void p10View0(Run x) {
        plain(x).bound(2).due("rough(0, 1)", 2);
    }

    static void p10View1(Run x) {
        plain(x).bound(2).due("rough(1, 1)", 1);
    }

    static void p10ViewAbove1(Run x) {
        x.worn().outside("rough(2, 0)");
    }

    static void p10LineBelow0(Run x) {
        x.worn().unknown("rough(0, -1)");
        x.worn().unknown("rough(1, -1)");
    }

    static void p10FirstLine(Run x) {
        plain(x).bound(0).due("rough(0, 0)", 1).due("rough(1, 0)", 0);
    }

    static void p10LastLine(Run x) {
        plain(x).bound(3).due("rough(0, 3)", 1).due("rough(1, 4)", 1);
    }

    static void p10LineBehindTheLast(Run x) {
        x.worn().unknown("rough(0, 4)");
        x.worn().unknown("rough(1, 5)");
        x.wornLarge().unknown("rough(0, 7)");
        x.wornLarge().unknown("rough(1, 9)");
    }

    static void p10LinesOfEverySize(Run x) {
        x.everySize((y, s, w) -> {
            y.due(call("rough", 0, w - 1), 0);
            y.due(call("rough", 0, w), HullOffsets.UNKNOWN);
            y.due(call("rough", 1, s - 1), 0);
            y.due(call("rough", 1, s), HullOffsets.UNKNOWN);
        });
    }

    static void p10FarOff(Run x) {
        for (String far : FAR_OFF) {
            x.worn().outside(call("rough", far, 0));
            x.worn().unknown(call("rough", 0, far));
            x.worn().unknown(call("rough", 1, far));
        }
    }

    static void p10ViewAheadOfLine(Run x) {
        x.worn().outside("rough(2, 99)");
        x.worn().outside("rough(-1, -1)");
    }

    static void p10JumpOfBound(Run x) {
        x.station(5, 5, 5, 15).due("jump(1, 0, 1)", 10).due("rough(1, 0)", 0);
    }

    static void p10JumpOneBelowBound(Run x) {
        x.station(5, 5, 5, 14).due("jump(1, 0, 1)", 9).due("rough(1, 0)", 0);
    }

    static void p10JumpOneBeyondBound(Run x) {
        x.station(5, 5, 5, 16).due("jump(1, 0, 1)", 11).due("rough(1, 0)", 1);
    }

    static void p10JumpOfBoundBelow0(Run x) {
        x.station(15, 5, 5, 5).due("jump(1, 0, 1)", -10).due("rough(1, 0)", 0);
    }

    static void p10JumpOneBeyondBoundBelow0(Run x) {
        x.station(16, 5, 5, 5).due("jump(1, 0, 1)", -11).due("rough(1, 0)", 1);
    }

    static void p10Bound0(Run x) {
        x.station(5, 5, 5, 5).bound(0).due("rough(1, 0)", 0);
        x.after("offset(0, 3, 6)").due("rough(1, 0)", 1);
    }

    static void p10Bound999(Run x) {
        x.station(0, 0, 0, 999).bound(999).due("rough(1, 0)", 0);
        x.station(0, 1, 0, 996).due("jump(1, 0, 1)", 999).due("rough(1, 0)", 0);
        x.station(0, 1, 0, 997).due("jump(1, 0, 1)", 1000).due("rough(1, 0)", 1);
    }

    static void p10EachJumpOfEverySize(Run x) {
        // Up and down at each station and each water line: no jump is 0.
        x.everySize((y, s, w) -> {
            for (int point = 0; point < s * w; point++) {
                y.after(call("offset", point / w, point % w, (point / w + point % w) % 2 * 9));
            }
            y.due(call("rough", 0, w - 1), s - 3);
            y.due(call("rough", 1, s - 1), w - 3);
        });
    }

    static void p10ByTheBoundOfTheTime(Run x) {
        plain(x).bound(9).due("rough(0, 1)", 2);
        x.bound(10).due("rough(0, 1)", 1);
        x.bound(11).due("rough(0, 1)", 0);
        x.bound(9).due("rough(0, 1)", 2);
    }

    static void p10ChangesNothing(Run x) {
        x.worn().changesNothing("rough(0, 1)");
        x.worn().changesNothing("rough(1, 1)");
    }
}
