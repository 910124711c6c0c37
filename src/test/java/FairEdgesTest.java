/** The edges of promises 11 to 14, each by a case of its own: least, fair, rounds, back. */
public final class FairEdgesTest {
    private static final String[] FAR_OFF = {"MIN", "MAX", "256", "65536", "1073741824", "-2147483647"};

    public static void main(String[] args) {
        Cases.run(FairEdgesTest.class, 11, 14);
    }

    private static String call(String method, Object... arguments) {
        return Run.call(method, arguments);
    }

    /** A worn hull whose water line 0 and station 3 have no MOVES. */
    private static Run beyondMending(Run x) {
        return x.worn().after("offset(3, 0, 900)");
    }

    // ---- promise 11: least, and which refusal it tells

    static void p11ViewBelow0(Run x) {
        x.worn().outside("least(-1, 0, 0)");
    }

    static void p11View0(Run x) {
        x.waterLine(5, 5, 5, 8, 14).bound(0).reach(1).dueLeast(0, 0, 2, "0 -1 0 0 -1");
    }

    static void p11View1(Run x) {
        x.station(5, 5, 5, 8).bound(0).dueLeast(1, 0, 1, "0 -1 0 0");
    }

    static void p11ViewAbove1(Run x) {
        x.worn().outside("least(2, 0, 0)");
    }

    static void p11LineBelow0(Run x) {
        x.worn().unknown("least(0, -1, 0)");
        x.worn().unknown("least(1, -1, 0)");
    }

    static void p11LastLine(Run x) {
        x.flat(5).bound(0).after("offset(2, 3, 6)", "offset(4, 1, 6)");
        x.due("least(0, 3, 2)", -1);
        x.due("least(1, 4, 1)", -1);
    }

    static void p11LineBehindTheLast(Run x) {
        x.worn().unknown("least(0, 4, 0)");
        x.worn().unknown("least(1, 5, 0)");
        x.wornLarge().unknown("least(0, 7, 0)");
        x.wornLarge().unknown("least(1, 9, 0)");
    }

    static void p11PointBelowMinus1(Run x) {
        x.worn().outside("least(0, 0, -2)");
        x.worn().outside("least(1, 0, -2)");
    }

    static void p11PointMinus1IsAllTogether(Run x) {
        x.station(5, 5, 5, 12).bound(0).due("least(1, 0, -1)", 3);
    }

    static void p11FirstPoint(Run x) {
        x.station(5, 5, 5, 4).bound(0).due("least(1, 0, 0)", -1);
    }

    static void p11LastPoint(Run x) {
        x.station(5, 5, 5, 6).bound(0).due("least(1, 0, 3)", -1);
        x.waterLine(5, 5, 5, 5, 5, 5, 5, 5, 6).due("least(0, 0, 8)", -1);
    }

    static void p11PointBehindTheLast(Run x) {
        x.worn().outside("least(0, 0, 5)");
        x.worn().outside("least(1, 0, 4)");
        x.wornLarge().outside("least(0, 0, 9)");
        x.wornLarge().outside("least(1, 0, 7)");
    }

    static void p11EverySize(Run x) {
        x.everySize((y, s, w) -> {
            duePointsTo(y, 0, w - 1, s - 1);
            duePointsTo(y, 1, s - 1, w - 1);
            y.due(call("least", 0, w, 0), HullOffsets.UNKNOWN);
            y.due(call("least", 1, s, 0), HullOffsets.UNKNOWN);
        });
    }

    private static void duePointsTo(Run x, int view, int k, int last) {
        x.due(call("least", view, k, -2), HullOffsets.OUTSIDE);
        x.due(call("least", view, k, -1), 0);
        x.due(call("least", view, k, 0), 0);
        x.due(call("least", view, k, last), 0);
        x.due(call("least", view, k, last + 1), HullOffsets.OUTSIDE);
    }

    static void p11FarOff(Run x) {
        for (String far : FAR_OFF) {
            x.worn().outside(call("least", far, 0, 0));
            x.worn().unknown(call("least", 0, far, 0));
            x.worn().unknown(call("least", 1, far, 0));
            x.worn().outside(call("least", 0, 0, far));
            x.worn().outside(call("least", 1, 0, far));
        }
    }

    static void p11ViewAheadOfLine(Run x) {
        x.worn().outside("least(2, 99, 0)");
        x.worn().outside("least(-1, -1, 0)");
    }

    static void p11LineAheadOfPoint(Run x) {
        x.worn().unknown("least(0, 4, -2)");
        x.worn().unknown("least(0, -1, 5)");
        x.worn().unknown("least(1, 5, -2)");
        x.worn().unknown("least(1, -1, 4)");
    }

    static void p11NoneAtEachPointAndTogether(Run x) {
        beyondMending(x).dueNoMoves(0, 0).dueNoMoves(1, 3);
    }

    static void p11NoneChangesNothing(Run x) {
        beyondMending(x).changesNothing("least(0, 0, -1)");
        beyondMending(x).changesNothing("least(1, 3, 3)");
    }

    static void p11ViewAheadOfNone(Run x) {
        beyondMending(x).outside("least(2, 0, 0)");
    }

    static void p11LineAheadOfNone(Run x) {
        beyondMending(x).unknown("least(0, 4, 0)");
    }

    static void p11PointAheadOfNone(Run x) {
        beyondMending(x).outside("least(0, 0, -2)");
        beyondMending(x).outside("least(0, 0, 5)");
        beyondMending(x).outside("least(1, 3, 4)");
    }

    static void p11ChangesNothing(Run x) {
        x.station(5, 5, 5, 8).bound(0).changesNothing("least(1, 0, -1)");
        x.changesNothing("least(1, 0, 1)");
    }

    // ---- promise 11: MOVES are within REACH

    static void p11Reach0OfAFairLine(Run x) {
        x.station(5, 5, 5, 5).bound(0).reach(0).dueLeast(1, 0, 0, "0 0 0 0");
    }

    static void p11Reach0OfALineThatIsNotFair(Run x) {
        x.station(5, 5, 5, 6).bound(0).reach(0).dueNoMoves(1, 0);
    }

    static void p11Reach1AllOfIt(Run x) {
        x.station(50, 50, 50, 58).bound(0).reach(1).dueLeast(1, 0, 4, "1 -1 1 -1");
    }

    static void p11Reach1OneTooFar(Run x) {
        x.station(50, 50, 50, 59).bound(0).reach(1).dueNoMoves(1, 0);
        x.reach(2).due("least(1, 0, -1)", 3);
    }

    static void p11Reach2AllOfIt(Run x) {
        x.station(50, 50, 50, 66).bound(0).reach(2).dueLeast(1, 0, 8, "2 -2 2 -2");
    }

    static void p11Reach2OneTooFar(Run x) {
        x.station(50, 50, 50, 67).bound(0).reach(2).dueNoMoves(1, 0);
    }

    static void p11Reach3AllOfIt(Run x) {
        x.station(50, 50, 50, 74).bound(0).reach(3).dueLeast(1, 0, 12, "3 -3 3 -3");
    }

    static void p11Reach3OneTooFar(Run x) {
        x.station(50, 50, 50, 75).bound(0).reach(3).dueNoMoves(1, 0);
    }

    static void p11Reach3AllOfItBelow0(Run x) {
        x.station(50, 50, 50, 26).bound(0).reach(3).dueLeast(1, 0, 12, "-3 3 -3 3");
    }

    static void p11Reach3OneTooFarBelow0(Run x) {
        x.station(50, 50, 50, 25).bound(0).reach(3).dueNoMoves(1, 0);
    }

    static void p11OnePointAllOfReach(Run x) {
        x.station(50, 50, 50, 53).bound(0).reach(3).hold(0, 0).hold(0, 1).hold(0, 2).dueLeast(1, 0, 3, "0 0 0 -3");
    }

    static void p11OnePointOneBeyondReach(Run x) {
        x.station(50, 50, 50, 54).bound(0).reach(3).hold(0, 0).hold(0, 1).hold(0, 2).dueNoMoves(1, 0);
    }

    static void p11NinePointsAllOfReach(Run x) {
        upAndDown(x, 3).dueLeast(0, 0, 27, "-3 3 -3 3 -3 3 -3 3 -3");
    }

    static void p11NinePointsOneTooFar(Run x) {
        // Nothing but a curve without jumps may be added, and none goes up and down so often.
        upAndDown(x, 3).after("offset(0, 0, 104)").dueNoMoves(0, 0);
        x.after("offset(0, 0, 103)", "offset(8, 0, 104)").dueNoMoves(0, 0);
    }

    static void p11NinePointsReachTooShort(Run x) {
        upAndDown(x, 3).reach(2).dueNoMoves(0, 0);
    }

    /** Water line 0 of nine stations, by turns so much above and below 100; BOUND 0, REACH 3. */
    private static Run upAndDown(Run x, int much) {
        int[] offsets = new int[9];
        for (int s = 0; s < 9; s++) {
            offsets[s] = s % 2 == 0 ? 100 + much : 100 - much;
        }
        return x.waterLine(offsets).bound(0).reach(3);
    }

    // ---- promise 11: it is FAIR with MOVES

    static void p11JumpOfBoundIsFair(Run x) {
        x.station(5, 5, 5, 8).bound(3).dueLeast(1, 0, 0, "0 0 0 0");
    }

    static void p11JumpOneBelowBoundIsFair(Run x) {
        x.station(5, 5, 5, 7).bound(3).dueLeast(1, 0, 0, "0 0 0 0");
    }

    static void p11JumpOneBeyondBound(Run x) {
        x.station(5, 5, 5, 9).bound(3).dueLeast(1, 0, 1, "0 -1 0 0");
    }

    static void p11JumpIsBroughtToBoundAndNoNearer(Run x) {
        // With the inner points held a jump of 12 comes to 10 by two steps, of the first point or the last.
        x.station(5, 5, 5, 17).hold(0, 1).hold(0, 2).dueLeast(1, 0, 2, "0 0 0 -2");
        x.station(17, 5, 5, 5).hold(0, 1).hold(0, 2).dueLeast(1, 0, 2, "-2 0 0 0");
    }

    static void p11Bound999AllOfReach(Run x) {
        x.station(100, 441, 100, 100).bound(999).reach(3);
        x.due("jump(1, 0, 1)", 1023).dueLeast(1, 0, 12, "3 -3 3 -3");
    }

    static void p11Bound999OneTooFar(Run x) {
        x.station(100, 441, 100, 101).bound(999).reach(3);
        x.due("jump(1, 0, 1)", 1024).dueNoMoves(1, 0);
    }

    static void p11Bound999AllOfReachBelow0(Run x) {
        x.station(100, 100, 441, 100).bound(999).reach(3);
        x.due("jump(1, 0, 1)", -1023).dueLeast(1, 0, 12, "-3 3 -3 3");
    }

    static void p11FarthestJumpOfAll(Run x) {
        x.station(0, 999, 0, 999).bound(999).reach(3).dueNoMoves(1, 0);
    }

    static void p11OneJumpMendedIsNotEnough(Run x) {
        // Jumps 3, -9, 9, -3 come to 0 by point 3 alone, or by a curve to it, of which no point may be held.
        x.waterLine(50, 50, 50, 53, 50, 50, 50).bound(0).reach(3).dueLeast(0, 0, 3, "0 0 0 -3 0 0 0");
        x.hold(3, 0).dueLeast(0, 0, 10, "-3 0 2 0 3 2 0");
        x.hold(2, 0).dueNoMoves(0, 0);
    }

    static void p11OnlyTheFirstJumpIsRough(Run x) {
        // The first point comes into the first jump alone.
        x.waterLine(61, 50, 50, 50, 50).due("rough(0, 0)", 1).dueLeast(0, 0, 1, "-1 0 0 0 0");
    }

    static void p11OnlyTheLastJumpIsRough(Run x) {
        x.waterLine(50, 50, 50, 50, 50, 50, 50, 50, 61).due("rough(0, 0)", 1);
        x.due("least(0, 0, -1)", 1);
        x.hold(5, 0).hold(6, 0).hold(7, 0).dueLeast(0, 0, 1, "0 0 0 0 0 0 0 0 -1");
    }

    // ---- promise 11: OFFSETS stay 0 .. 999 with MOVES

    static void p11DownTo0(Run x) {
        x.station(1, 1, 1, 4).bound(0).reach(1).dueLeast(1, 0, 1, "0 -1 0 0");
    }

    static void p11NotBelow0(Run x) {
        x.station(0, 0, 0, 3).bound(0).reach(1).dueLeast(1, 0, 1, "0 0 1 0");
    }

    static void p11DownTo0ByAllOfReach(Run x) {
        x.station(3, 3, 3, 12).bound(0).reach(3).dueLeast(1, 0, 3, "0 -3 0 0");
    }

    static void p11NotBelow0ByAllOfReach(Run x) {
        x.station(2, 2, 2, 11).bound(0).reach(3).dueLeast(1, 0, 3, "0 -2 1 0");
    }

    static void p11FirstPointNotBelow0(Run x) {
        x.station(5, 5, 5, 4).bound(0).hold(0, 1).hold(0, 2).dueLeast(1, 0, 1, "-1 0 0 0");
        x.station(0, 2, 4, 5).hold(0, 1).hold(0, 2).due("jump(1, 0, 1)", -1).dueLeast(1, 0, 1, "0 0 0 1");
        x.hold(0, 3).dueNoMoves(1, 0);
    }

    static void p11LastPointNotBelow0(Run x) {
        x.station(4, 3, 2, 0).bound(0).due("jump(1, 0, 1)", -1).hold(0, 0).hold(0, 1).hold(0, 2);
        x.dueLeast(1, 0, 1, "0 0 0 1");
        x.station(2, 1, 0, 0).due("jump(1, 0, 1)", 1).hold(0, 0).hold(0, 1).hold(0, 2).dueNoMoves(1, 0);
    }

    static void p11UpTo999(Run x) {
        x.station(998, 998, 998, 995).bound(0).reach(1).hold(0, 2).dueLeast(1, 0, 1, "0 1 0 0");
    }

    static void p11NotAbove999(Run x) {
        x.station(999, 999, 999, 996).bound(0).reach(1).hold(0, 2).dueNoMoves(1, 0);
        x.after("hold(0, 2, false)").dueLeast(1, 0, 1, "0 0 -1 0");
    }

    static void p11UpTo999ByAllOfReach(Run x) {
        x.station(996, 996, 996, 987).bound(0).reach(3).hold(0, 2).dueLeast(1, 0, 3, "0 3 0 0");
    }

    static void p11NotAbove999ByAllOfReach(Run x) {
        x.station(997, 997, 997, 988).bound(0).reach(3).hold(0, 2).dueLeast(1, 0, 5, "-3 2 0 0");
    }

    static void p11FirstPointNotAbove999(Run x) {
        x.station(998, 998, 998, 999).bound(0).hold(0, 1).hold(0, 2).hold(0, 3).dueLeast(1, 0, 1, "1 0 0 0");
        x.station(999, 997, 995, 994).hold(0, 1).hold(0, 2).hold(0, 3).due("jump(1, 0, 1)", 1).dueNoMoves(1, 0);
    }

    static void p11LastPointNotAbove999(Run x) {
        x.station(996, 997, 998, 998).bound(0).hold(0, 0).hold(0, 1).hold(0, 2).dueLeast(1, 0, 1, "0 0 0 1");
        x.station(997, 998, 999, 999).hold(0, 0).hold(0, 1).hold(0, 2).due("jump(1, 0, 1)", -1).dueNoMoves(1, 0);
    }

    // ---- promise 11: points that are HELD

    static void p11FirstPointHeld(Run x) {
        x.station(5, 5, 5, 4).bound(0).reach(1).hold(0, 0).dueLeast(1, 0, 1, "0 0 0 1");
    }

    static void p11InnerPointHeld(Run x) {
        x.station(5, 5, 5, 8).bound(0).reach(1).hold(0, 1).dueLeast(1, 0, 1, "0 0 1 0");
    }

    static void p11LastPointHeld(Run x) {
        x.station(5, 5, 5, 6).bound(0).reach(1).hold(0, 3).dueLeast(1, 0, 1, "1 0 0 0");
    }

    static void p11EachPointHeldOfAFairLine(Run x) {
        x.station(5, 5, 5, 5).bound(0);
        holdStation0(x).dueLeast(1, 0, 0, "0 0 0 0");
    }

    static void p11EachPointHeldOfALineThatIsNotFair(Run x) {
        x.station(5, 5, 5, 6).bound(0);
        holdStation0(x).dueNoMoves(1, 0);
    }

    private static Run holdStation0(Run x) {
        return x.hold(0, 0).hold(0, 1).hold(0, 2).hold(0, 3);
    }

    static void p11EachPointButOneHeld(Run x) {
        x.station(5, 5, 5, 6).bound(0);
        holdStation0(x).after("hold(0, 0, false)").dueLeast(1, 0, 1, "1 0 0 0");
        x.after("hold(0, 0, true)", "hold(0, 3, false)").dueLeast(1, 0, 1, "0 0 0 -1");
        x.after("hold(0, 3, true)", "hold(0, 1, false)").dueNoMoves(1, 0);
    }

    static void p11PointOfAnotherLineHeld(Run x) {
        x.station(5, 5, 5, 8).bound(0).hold(1, 0).hold(1, 1).hold(1, 2).hold(1, 3).dueLeast(1, 0, 1, "0 -1 0 0");
    }

    static void p11HeldNoMore(Run x) {
        x.station(5, 5, 5, 8).bound(0).hold(0, 1).after("hold(0, 1, false)").dueLeast(1, 0, 1, "0 -1 0 0");
    }

    // ---- promise 11: of several the first as a row

    static void p11FirstByItsFirstPoint(Run x) {
        // As few are 0 -1 0 1, 0 0 0 -2, 0 0 1 1, 1 0 0 -1, 2 0 0 0 and, by its second point, -1 0 1 0.
        x.station(5, 5, 5, 7).bound(0).dueLeast(1, 0, 2, "-1 -1 0 0");
    }

    static void p11FirstByItsSecondPoint(Run x) {
        x.station(5, 5, 5, 7).bound(0).hold(0, 0).dueLeast(1, 0, 2, "0 -1 0 1");
    }

    static void p11FirstByItsThirdPoint(Run x) {
        x.station(5, 5, 5, 7).bound(0).hold(0, 0).hold(0, 1).dueLeast(1, 0, 2, "0 0 0 -2");
    }

    static void p11FewerAheadOfFirst(Run x) {
        // -3 .. as its first number would be the first row, but is not the fewest.
        x.station(5, 5, 5, 8).bound(0).reach(3).dueLeast(1, 0, 1, "0 -1 0 0");
    }

    // ---- promise 12: fair

    static void p12ViewBelow0(Run x) {
        x.worn().outside("fair(-1, 0)");
    }

    static void p12View0(Run x) {
        x.waterLine(5, 5, 5, 8, 14).bound(0).reach(1).due("fair(0, 0)", 2);
        x.same("water line 0", x.offsetsOf(0, 0), "5 4 5 8 13");
        x.due("many(4)", 2);
    }

    static void p12View1(Run x) {
        x.station(5, 5, 5, 8).bound(0).due("fair(1, 0)", 1);
        x.same("station 0", x.offsetsOf(1, 0), "5 4 5 8");
        x.due("many(4)", 1);
    }

    static void p12ViewAbove1(Run x) {
        x.worn().outside("fair(2, 0)");
    }

    static void p12LineBelow0(Run x) {
        x.worn().unknown("fair(0, -1)");
        x.worn().unknown("fair(1, -1)");
    }

    static void p12LastLine(Run x) {
        x.flat(5).bound(0).reach(1).after("offset(2, 3, 6)").due("fair(0, 3)", 1).due("ofPoint(2, 3, 0)", 5);
        x.flat(5).after("offset(4, 1, 6)").due("fair(1, 4)", 1).due("ofPoint(4, 1, 0)", 5);
    }

    static void p12LineBehindTheLast(Run x) {
        x.worn().unknown("fair(0, 4)");
        x.worn().unknown("fair(1, 5)");
        x.wornLarge().unknown("fair(0, 7)");
        x.wornLarge().unknown("fair(1, 9)");
    }

    static void p12LinesOfEverySize(Run x) {
        x.everySize((y, s, w) -> {
            y.due(call("fair", 0, w - 1), 0);
            y.due(call("fair", 0, w), HullOffsets.UNKNOWN);
            y.due(call("fair", 1, s - 1), 0);
            y.due(call("fair", 1, s), HullOffsets.UNKNOWN);
        });
    }

    static void p12FarOff(Run x) {
        for (String far : FAR_OFF) {
            x.worn().outside(call("fair", far, 0));
            x.worn().unknown(call("fair", 0, far));
            x.worn().unknown(call("fair", 1, far));
        }
    }

    static void p12ViewAheadOfLine(Run x) {
        x.worn().outside("fair(2, 99)");
        x.worn().outside("fair(-1, -1)");
    }

    static void p12NoMoves(Run x) {
        beyondMending(x).state("fair(0, 0)");
        beyondMending(x).state("fair(1, 3)");
    }

    static void p12NoMovesByReach0(Run x) {
        x.station(5, 5, 5, 6).bound(0).reach(0).state("fair(1, 0)");
    }

    static void p12NoMovesByHeldPoints(Run x) {
        x.station(5, 5, 5, 6).bound(0);
        holdStation0(x).state("fair(1, 0)");
    }

    static void p12ViewAheadOfNoMoves(Run x) {
        beyondMending(x).outside("fair(2, 0)");
        beyondMending(x).outside("fair(-1, 3)");
    }

    static void p12LineAheadOfNoMoves(Run x) {
        beyondMending(x).unknown("fair(0, 4)");
        beyondMending(x).unknown("fair(1, 5)");
    }

    static void p12LineThatIsFair(Run x) {
        Run worn = x.worn();
        worn.due("rough(0, 1)", 0);
        String was = worn.seen();
        worn.due("fair(0, 1)", 0);
        x.same("all behind a fair line is faired", worn.seen(), was);
    }

    static void p12LineThatIsFairWithEachPointHeld(Run x) {
        x.station(5, 5, 5, 5).bound(0).reach(0);
        holdStation0(x).due("fair(1, 0)", 0);
    }

    static void p12Twice(Run x) {
        x.station(5, 5, 5, 8).bound(0).due("fair(1, 0)", 1).due("fair(1, 0)", 0).due("many(4)", 1);
    }

    static void p12AllOfReach(Run x) {
        x.station(50, 50, 50, 74).bound(0).reach(3).due("fair(1, 0)", 12);
        x.same("station 0", x.offsetsOf(1, 0), "53 47 53 71");
        x.due("rough(1, 0)", 0);
    }

    static void p12OneBeyondReach(Run x) {
        x.station(50, 50, 50, 75).bound(0).reach(3).state("fair(1, 0)");
    }

    static void p12NinePointsAllOfReach(Run x) {
        upAndDown(x, 3).due("fair(0, 0)", 27);
        x.same("water line 0", x.offsetsOf(0, 0), "100 100 100 100 100 100 100 100 100");
        x.due("many(4)", 27);
    }

    static void p12DownTo0(Run x) {
        x.station(3, 3, 3, 12).bound(0).reach(3).due("fair(1, 0)", 3).due("ofPoint(0, 1, 0)", 0);
    }

    static void p12UpTo999(Run x) {
        x.station(996, 996, 996, 987).bound(0).reach(3).hold(0, 2).due("fair(1, 0)", 3).due("ofPoint(0, 1, 0)", 999);
    }

    static void p12HeldPointStays(Run x) {
        x.station(5, 5, 5, 8).bound(0).hold(0, 1).due("fair(1, 0)", 1);
        x.due("ofPoint(0, 1, 0)", 5).due("ofPoint(0, 2, 0)", 6);
    }

    static void p12PutStays(Run x) {
        x.station(5, 5, 5, 8).bound(0).after("fair(1, 0)").due("ofPoint(0, 1, 2)", -1);
        x.due("back()", 1).due("ofPoint(0, 1, 0)", 5);
    }

    static void p12FartherFromPutThanReach(Run x) {
        // REACH is by how a line is when it is faired, not by PUT.
        x.station(50, 50, 50, 75).bound(1).reach(3).due("fair(1, 0)", 12).due("ofPoint(0, 3, 2)", -3);
        x.due("jump(1, 0, 1)", 1).bound(0).hold(0, 0).hold(0, 1).hold(0, 2).due("fair(1, 0)", 1);
        x.due("ofPoint(0, 3, 2)", -4);
    }

    // ---- promise 13: rounds

    /** Its rounds never come to rest: each goes on changing offsets. */
    private static Run restless(Run x) {
        return x.hull(new int[][] {
            {13, 11, 13, 10}, {10, 11, 13, 10}, {13, 12, 13, 13}, {10, 11, 11, 12}, {11, 10, 12, 11}}).bound(1).reach(1);
    }

    /** One round mends it, so a second one changes nothing. */
    private static Run oneBump(Run x) {
        return x.flat(5).bound(0).reach(1).after("offset(2, 1, 6)");
    }

    static void p13NoRound(Run x) {
        restless(x).outside("rounds(0)");
    }

    static void p13LessThanNoRound(Run x) {
        restless(x).outside("rounds(-1)");
    }

    static void p13OneRound(Run x) {
        restless(x).due("rounds(1)", 1);
    }

    static void p13TwoRounds(Run x) {
        restless(x).due("rounds(2)", 2);
    }

    static void p13NineteenRounds(Run x) {
        restless(x).due("rounds(19)", 19);
    }

    static void p13TwentyRounds(Run x) {
        restless(x).due("rounds(20)", 20);
    }

    static void p13TwentyOneRounds(Run x) {
        restless(x).outside("rounds(21)");
    }

    static void p13FarOff(Run x) {
        for (String far : FAR_OFF) {
            restless(x.another()).outside(call("rounds", far));
        }
    }

    static void p13EachOfNRoundsIsMade(Run x) {
        for (int n = 1; n <= 20; n++) {
            Run atOnce = restless(x.another()).due(call("rounds", n), n);
            Run oneByOne = restless(x.another());
            for (int round = 0; round < n; round++) {
                oneByOne.due("rounds(1)", 1);
            }
            x.same(n + " rounds", atOnce.seen(), oneByOne.seen());
        }
    }

    static void p13NothingToChangeAtOnce(Run x) {
        x.due("rounds(1)", 1).due("rounds(2)", 1).due("rounds(20)", 1);
    }

    static void p13NEndsAheadOfRest(Run x) {
        oneBump(x).due("rounds(1)", 1).due("many(3)", 0).due("ofPoint(2, 1, 0)", 5);
    }

    static void p13NEndsWithTheRoundThatRests(Run x) {
        oneBump(x).due("rounds(2)", 2).due("ofPoint(2, 1, 0)", 5);
    }

    static void p13RestEndsAheadOfN(Run x) {
        oneBump(x).due("rounds(3)", 2).due("ofPoint(2, 1, 0)", 5);
        oneBump(x).due("rounds(20)", 2).due("many(4)", 1);
    }

    static void p13RestByTheFirstPointAlone(Run x) {
        x.flat(5).bound(0).reach(1).after("offset(0, 0, 6)").due("rounds(20)", 2).due("many(4)", 1);
        x.due("ofPoint(0, 0, 0)", 5);
    }

    static void p13RestByTheLastPointAlone(Run x) {
        x.flat(5).bound(0).reach(1).after("offset(4, 3, 6)").due("rounds(20)", 2).due("many(4)", 1);
        x.due("ofPoint(4, 3, 0)", 5);
    }

    static void p13RestByTheLastPointOfALargeHull(Run x) {
        x.after("hull(9, 7)", "offset(8, 6, 1)").bound(0).reach(1).due("rounds(20)", 2).due("ofPoint(8, 6, 0)", 0);
    }

    static void p13MovedAndMovedBack(Run x) {
        // Water line 0 is 4 5 5 5 5, station 0 is 4 4 4 4, and all but their common point is held.
        x.hull(new int[][] {{4, 4, 4, 4}, {5, 5, 5, 5}, {5, 5, 5, 5}, {5, 5, 5, 5}, {5, 5, 5, 5}}).bound(0).reach(1);
        for (int point = 1; point < 20; point++) {
            x.hold(point / 4, point % 4);
        }
        x.due("rounds(20)", 1).due("many(4)", 0);
        x.due("fair(0, 0)", 1).due("ofPoint(0, 0, 0)", 5);
        x.due("fair(1, 0)", 1).due("ofPoint(0, 0, 0)", 4);
    }

    static void p13LinesWithoutMovesStay(Run x) {
        x.flat(5).bound(0).after("offset(2, 1, 900)");
        String was = x.seen();
        x.due("rounds(20)", 1);
        x.same("a hull that can't be mended", x.seen(), was);
    }

    static void p13LinesBehindOneWithoutMovesAreFaired(Run x) {
        x.flat(5).bound(0).reach(1).after("offset(2, 0, 900)", "offset(1, 2, 6)");
        x.due("rounds(1)", 1).due("ofPoint(1, 2, 0)", 5).due("ofPoint(2, 0, 0)", 900);
    }

    static void p13Reach0ChangesNothing(Run x) {
        restless(x).reach(0);
        String was = x.seen();
        x.due("rounds(20)", 1);
        x.same("a hull without reach", x.seen(), was);
    }

    static void p13EachPointHeldChangesNothing(Run x) {
        restless(x);
        for (int point = 0; point < 20; point++) {
            x.hold(point / 4, point % 4);
        }
        String was = x.seen();
        x.due("rounds(20)", 1);
        x.same("a hull that is held", x.seen(), was);
    }

    static void p13View0AheadOfView1(Run x) {
        Run inOrder = restless(x.another());
        fairLines(inOrder, 0, 4);
        fairLines(inOrder, 1, 5);
        Run otherWay = restless(x.another());
        fairLines(otherWay, 1, 5);
        fairLines(otherWay, 0, 4);
        restless(x).after("rounds(1)");
        String seen = x.seen();
        x.same("a round", seen, inOrder.seen());
        x.isTrue("the order of the views tells", !seen.equals(otherWay.seen()));
    }

    private static void fairLines(Run x, int view, int count) {
        for (int k = 0; k < count; k++) {
            x.after(call("fair", view, k));
        }
    }

    static void p13LastWaterLineIsFaired(Run x) {
        // Station 4 can't be mended, so that only the water line can take the bump away.
        x.after("hull(9, 7)", "offset(4, 0, 900)", "offset(4, 6, 1)").bound(0).reach(1);
        x.due("least(1, 4, -1)", HullOffsets.NONE).due("least(0, 6, -1)", 1);
        x.due("rounds(1)", 1).due("ofPoint(4, 6, 0)", 0).due("many(4)", 1);
    }

    static void p13LastStationIsFaired(Run x) {
        // Water line 3 can't be mended, so that only the station can take the bump away.
        x.after("hull(9, 7)", "offset(0, 3, 900)", "offset(8, 3, 1)").bound(0).reach(1);
        x.due("least(0, 3, -1)", HullOffsets.NONE).due("least(1, 8, -1)", 1);
        x.due("rounds(1)", 1).due("ofPoint(8, 3, 0)", 0).due("many(4)", 1);
    }

    // ---- promise 14: back

    static void p14OnANewHull(Run x) {
        x.due("back()", 0);
    }

    static void p14NothingMoved(Run x) {
        x.flat(5);
        String was = x.seen();
        x.due("back()", 0);
        x.same("a hull of which nothing was moved", x.seen(), was);
    }

    static void p14OnePointMovedDown(Run x) {
        x.station(5, 5, 5, 8).bound(0).after("fair(1, 0)").due("back()", 1).due("ofPoint(0, 1, 0)", 5);
    }

    static void p14OnePointMovedUp(Run x) {
        x.station(5, 5, 5, 8).bound(0).hold(0, 1).after("fair(1, 0)").due("back()", 1).due("ofPoint(0, 2, 0)", 5);
    }

    static void p14FirstPoint(Run x) {
        x.station(5, 5, 5, 4).bound(0).after("fair(1, 0)").due("ofPoint(0, 0, 0)", 4);
        x.due("back()", 1).due("ofPoint(0, 0, 0)", 5);
    }

    static void p14EachPointOfAFullHull(Run x) {
        x.after("hull(9, 7)").bound(0).reach(3);
        for (int point = 0; point < 63; point++) {
            x.after(call("offset", point / 7, point % 7, point / 7 % 2 == 0 ? 103 : 97));
        }
        String was = x.seen();
        x.due("rounds(20)", 2).due("many(4)", 189).due("back()", 63).due("many(4)", 0);
        x.same("a hull that is back", x.seen(), was);
    }

    static void p14Twice(Run x) {
        x.station(5, 5, 5, 8).bound(0).after("fair(1, 0)").due("back()", 1).due("back()", 0);
    }

    static void p14MovedAndMovedBackIsNoChange(Run x) {
        // What was moved away from PUT and back to it does not change.
        x.station(50, 50, 50, 51).bound(0).reach(1).hold(0, 0).hold(0, 1).hold(0, 2).due("fair(1, 0)", 1);
        x.after("offset(0, 0, 51)").due("ofPoint(0, 3, 2)", -1).due("fair(1, 0)", 1).due("ofPoint(0, 3, 2)", 0);
        x.due("back()", 0);
    }

    static void p14HeldPointGoesBackToo(Run x) {
        x.station(5, 5, 5, 8).bound(0).after("fair(1, 0)").hold(0, 1).due("back()", 1).due("ofPoint(0, 1, 0)", 5);
        x.due("ofPoint(0, 1, 1)", 1);
    }

    static void p14PointPutAnewStays(Run x) {
        x.station(5, 5, 5, 8).bound(0).after("fair(1, 0)", "offset(0, 1, 900)").due("back()", 0);
        x.due("ofPoint(0, 1, 0)", 900);
    }

    static void p14SettingsAndSizesStay(Run x) {
        Run worn = x.worn().after("back()");
        worn.due("many(0)", 5).due("many(1)", 4).due("many(2)", 2);
        worn.due("setting(0, 0)", 2).due("setting(1, 0)", 3).due("setting(2, 1)", 7).due("setting(3, 1)", 4);
    }

    static void p14BehindANewHull(Run x) {
        x.worn().after("hull(5, 4)").due("back()", 0).due("ofPoint(2, 1, 0)", 0);
    }
}
