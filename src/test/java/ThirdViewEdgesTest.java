/** The edges of promises 18 to 21, each by a case of its own: height, breaks, worst, many. */
public final class ThirdViewEdgesTest {
    private static final String[] FAR_OFF = {"MIN", "MAX", "65537", "16777217", "1073741825", "-2147483647"};

    public static void main(String[] args) {
        Cases.run(ThirdViewEdgesTest.class, 18, 21);
    }

    private static String call(String method, Object... arguments) {
        return Run.call(method, arguments);
    }

    // ---- promise 18: height, and when it is LOST

    static void p18StationBelow0(Run x) {
        x.worn().lost("height(-1, 20, 0)");
        x.worn().lost("height(-1, 20, 1)");
    }

    static void p18FirstStation(Run x) {
        x.station(10, 20, 30, 40).dueShare("height(0, 25", 3, 2);
    }

    static void p18LastStation(Run x) {
        x.after("hull(9, 7)", "offset(8, 6, 10)").dueShare("height(8, 5", 11, 2);
    }

    static void p18StationBehindTheLast(Run x) {
        x.worn().lost("height(5, 20, 0)");
        x.worn().lost("height(5, 20, 1)");
        x.wornLarge().lost("height(9, 20, 0)");
    }

    static void p18StationsOfEverySize(Run x) {
        x.everySize((y, s, w) -> {
            y.after(call("offset", s - 1, w - 1, 7)).dueShare("height(" + (s - 1) + ", 7", w - 1, 1);
            y.due(call("height", s, 7, 0), HullOffsets.LOST);
        });
    }

    static void p18BreadthBelow1(Run x) {
        // At 0 the first water line would be broad enough.
        x.worn().lost("height(0, 0, 0)");
        x.worn().lost("height(0, 0, 1)");
        x.worn().lost("height(0, -1, 0)");
    }

    static void p18Breadth1(Run x) {
        x.station(0, 0, 0, 2).dueShare("height(0, 1", 5, 2);
        x.station(1, 0, 0, 0).dueShare("height(0, 1", 0, 1);
    }

    static void p18Breadth2(Run x) {
        x.station(0, 0, 0, 2).dueShare("height(0, 2", 3, 1);
    }

    static void p18Breadth998(Run x) {
        x.station(0, 997, 999, 0).dueShare("height(0, 998", 3, 2);
    }

    static void p18Breadth999(Run x) {
        x.station(0, 0, 0, 999).dueShare("height(0, 999", 3, 1);
        x.station(0, 0, 0, 998).lost("height(0, 999, 0)");
    }

    static void p18BreadthAbove999(Run x) {
        x.station(0, 0, 0, 999).lost("height(0, 1000, 0)").lost("height(0, 1000, 1)");
    }

    static void p18WhichBelow0(Run x) {
        x.worn().lost("height(0, 20, -1)");
    }

    static void p18WhichAbove1(Run x) {
        x.worn().lost("height(0, 20, 2)");
    }

    static void p18FarOff(Run x) {
        for (String far : FAR_OFF) {
            x.worn().lost(call("height", far, 20, 0));
            x.worn().lost(call("height", 0, far, 0));
            x.worn().lost(call("height", 0, 20, far));
        }
    }

    static void p18SeveralRefusals(Run x) {
        x.worn().lost("height(5, 0, 2)");
        x.worn().lost("height(0, 999, 2)");
        x.worn().lost("height(5, 999, 0)");
    }

    static void p18AllOffsetsAreLess(Run x) {
        x.station(10, 20, 30, 40).lost("height(0, 41, 0)").lost("height(0, 41, 1)");
    }

    static void p18AllOffsetsAre0(Run x) {
        x.lost("height(0, 1, 0)").lost("height(6, 1, 1)");
    }

    static void p18OneMoreThanTheBroadestOfAHollowStation(Run x) {
        x.station(20, 5, 30, 2).lost("height(0, 31, 0)").dueShare("height(0, 30", 2, 1);
    }

    static void p18ChangesNothing(Run x) {
        x.worn().changesNothing("height(2, 35, 0)");
        x.worn().changesNothing("height(2, 35, 1)");
    }

    // ---- promise 18: where the first WATER LINE is

    static void p18FirstWaterLineIsAsBroad(Run x) {
        x.station(10, 20, 30, 40).dueShare("height(0, 10", 0, 1);
    }

    static void p18FirstWaterLineIsBroader(Run x) {
        x.station(10, 20, 30, 40).dueShare("height(0, 9", 0, 1);
    }

    static void p18FirstWaterLineIsOneLess(Run x) {
        x.station(10, 20, 30, 40).dueShare("height(0, 11", 1, 10);
    }

    static void p18InnerWaterLineIsAsBroad(Run x) {
        x.station(10, 20, 30, 40).dueShare("height(0, 20", 1, 1);
    }

    static void p18InnerWaterLineIsOneLess(Run x) {
        x.station(10, 20, 30, 40).dueShare("height(0, 21", 11, 10);
    }

    static void p18LastWaterLineIsAsBroad(Run x) {
        x.station(10, 20, 30, 40).dueShare("height(0, 40", 3, 1);
        x.station(0, 0, 0, 0, 0, 0, 9).dueShare("height(0, 9", 6, 1);
    }

    static void p18LastWaterLineIsOneBroader(Run x) {
        x.station(10, 20, 30, 40).dueShare("height(0, 39", 29, 10);
    }

    static void p18TheFirstOfSeveralIsTheOne(Run x) {
        // Broad enough at water lines 0 and 3; at 1 and 3.
        x.station(10, 5, 3, 30).dueShare("height(0, 10", 0, 1);
        x.station(0, 12, 3, 30).dueShare("height(0, 6", 1, 2);
    }

    static void p18HollowAheadOfIt(Run x) {
        // It is told from the water line just ahead, not from one that was broader.
        x.station(10, 5, 3, 30).dueShare("height(0, 12", 7, 3);
    }

    static void p18TwoAlike(Run x) {
        x.station(5, 7, 7, 9).dueShare("height(0, 7", 1, 1).dueShare("height(0, 8", 5, 2);
    }

    static void p18LeastStep(Run x) {
        x.station(5, 6, 7, 8).dueShare("height(0, 6", 1, 1).dueShare("height(0, 7", 2, 1);
    }

    static void p18GreatestStep(Run x) {
        x.station(0, 0, 0, 999).dueShare("height(0, 1", 1999, 999).dueShare("height(0, 998", 2996, 999);
    }

    static void p18LeastTerms(Run x) {
        x.station(0, 0, 0, 6).dueShare("height(0, 1", 13, 6).dueShare("height(0, 2", 7, 3);
        x.dueShare("height(0, 3", 5, 2).dueShare("height(0, 6", 3, 1);
    }

    static void p18ByTheOffsetsOfTheTime(Run x) {
        x.station(5, 5, 5, 8).bound(0).dueShare("height(0, 5", 0, 1).dueShare("height(0, 6", 7, 3);
        x.after("offset(0, 0, 3)").dueShare("height(0, 5", 1, 1);
        x.after("hull(5, 4)").lost("height(0, 5, 0)");
    }

    // ---- promise 19: breaks

    /** Straight sides, 100 broader a water line, but for station 2, which is less broad at water line 1. */
    private static Run hollowAtTwo(Run x) {
        int[] straight = {0, 100, 200, 300};
        return x.hull(new int[][] {straight, straight, {0, 50, 200, 300}, straight, straight});
    }

    static void p19BreadthBelow1(Run x) {
        x.worn().outside("breaks(0)");
        x.worn().outside("breaks(-1)");
    }

    static void p19Breadth1(Run x) {
        // A height of 1 at station 0, of 0 at the others: 100 off, and 0 off.
        x.flat(1).after("offset(0, 0, 0)").due("breaks(1)", 1);
    }

    static void p19Breadth2(Run x) {
        x.flat(1).after("offset(0, 0, 0)").due("breaks(2)", 0);
    }

    static void p19Breadth998(Run x) {
        x.flat(998).after("offset(0, 0, 0)").due("breaks(998)", 1).due("breaks(999)", 0);
    }

    static void p19Breadth999(Run x) {
        x.flat(999).after("offset(0, 0, 0)").due("breaks(999)", 1);
    }

    static void p19BreadthAbove999(Run x) {
        x.worn().outside("breaks(1000)");
    }

    static void p19FarOff(Run x) {
        for (String far : FAR_OFF) {
            x.worn().outside(call("breaks", far));
        }
    }

    static void p19NoHeightAtAll(Run x) {
        x.bound(0).due("breaks(1)", 0).due("breaks(999)", 0);
    }

    static void p19AsFarAsBound(Run x) {
        // Heights at 50 are a half, and 1 at station 2: 3 halves off both ways.
        hollowAtTwo(x).bound(150).due("breaks(50)", 0);
    }

    static void p19OneBeyondBound(Run x) {
        hollowAtTwo(x).bound(149).due("breaks(50)", 2);
    }

    static void p19OneBelowBound(Run x) {
        hollowAtTwo(x).bound(151).due("breaks(50)", 0);
    }

    static void p19AThirdBeyondBound(Run x) {
        // A height of a third at station 0, of 0 at the others: 33 and a third.
        x.flat(100).after("offset(0, 0, 0)", "offset(0, 1, 300)").bound(33).due("breaks(100)", 1);
        x.bound(34).due("breaks(100)", 0);
    }

    static void p19Bound0(Run x) {
        hollowAtTwo(x).bound(0).due("breaks(1)", 2).due("breaks(200)", 0).due("breaks(300)", 0);
    }

    static void p19Bound0OfHeightsWithoutJumps(Run x) {
        // Heights 0, 1, 2, 3, 4 at 5, and then 0, 0, 1, 3, 6: by steps that grow evenly.
        x.after("hull(5, 7)").bound(0);
        int[] first = {0, 1, 2, 3, 4};
        dueBreaksOfHeights(x, first, 0);
        int[] second = {0, 0, 1, 3, 6};
        dueBreaksOfHeights(x, second, 0);
        int[] third = {0, 0, 1, 3, 5};
        dueBreaksOfHeights(x, third, 1);
    }

    private static void dueBreaksOfHeights(Run x, int[] heights, int count) {
        for (int s = 0; s < heights.length; s++) {
            for (int w = 0; w < 7; w++) {
                x.after(call("offset", s, w, w < heights[s] ? 0 : 5));
            }
        }
        x.due("breaks(5)", count);
    }

    static void p19Bound999AsFar(Run x) {
        // A height of 3 and 33 hundredths at station 1, of 0 at the others: 999 and 333 off.
        farOffAtOne(x, 167).bound(999).dueShare("height(1, 100", 333, 100).due("breaks(100)", 0);
        x.bound(998).due("breaks(100)", 1);
        x.bound(333).due("breaks(100)", 1);
        x.bound(332).due("breaks(100)", 2);
    }

    static void p19Bound999AndFarther(Run x) {
        farOffAtOne(x, 166).bound(999).dueShare("height(1, 100", 10, 3).due("breaks(100)", 1);
    }

    /** A hull of 5 by 5, 100 broad everywhere but at station 1. */
    private static Run farOffAtOne(Run x, int last) {
        int[] broad = {100, 100, 100, 100, 100};
        return x.hull(new int[][] {broad, {0, 0, 0, 67, last}, broad, broad, broad});
    }

    static void p19FarthestOfAll(Run x) {
        // Heights 0, 6, 0, 6 by turns: 24 off each time.
        x.after("hull(9, 7)").bound(999);
        for (int s = 0; s < 9; s++) {
            x.after(call("offset", s, s % 2 == 0 ? 0 : 6, 5));
        }
        x.due("breaks(5)", 6);
    }

    static void p19OffToOneSideAndToTheOther(Run x) {
        // Station 0's height alone comes in once, less; station 4's once, more.
        x.flat(5).after("offset(0, 0, 0)").due("breaks(5)", 1);
        x.flat(5).after("offset(4, 0, 0)").due("breaks(5)", 1);
    }

    static void p19FewestStationsHaveTwoFours(Run x) {
        x.flat(5).after("offset(1, 0, 0)", "offset(3, 0, 0)").due("breaks(5)", 2);
    }

    static void p19EveryNumberOfStations(Run x) {
        x.everySize((y, s, w) -> {
            for (int station = 0; station < s; station++) {
                y.after(call("offset", station, station % 2 == 0 ? 0 : w - 1, 5));
            }
            y.due("breaks(5)", s - 3);
        });
    }

    static void p19FirstOfFourHasNoHeight(Run x) {
        noHeightAt(x, 0).due("breaks(5)", 1);
    }

    static void p19SecondOfFourHasNoHeight(Run x) {
        noHeightAt(x, 1).due("breaks(5)", 0);
    }

    static void p19ThirdOfFourHasNoHeight(Run x) {
        noHeightAt(x, 2).due("breaks(5)", 0);
    }

    static void p19FourthOfFourHasNoHeight(Run x) {
        noHeightAt(x, 3).due("breaks(5)", 0);
    }

    static void p19LastStationHasNoHeight(Run x) {
        noHeightAt(x, 4).due("breaks(5)", 1);
    }

    /** Breaks at 5 in both fours, but one station is less broad than 5. */
    private static Run noHeightAt(Run x, int station) {
        x.flat(5).after("offset(1, 0, 0)", "offset(3, 0, 0)").due("breaks(5)", 2);
        for (int w = 0; w < 4; w++) {
            x.after(call("offset", station, w, 4));
        }
        return x;
    }

    static void p19AHeightOf0IsOne(Run x) {
        // Station 0 is broad enough at its first water line, where noHeightAt has none.
        noHeightAt(x, 0).after("offset(0, 0, 5)").due("breaks(5)", 2);
    }

    static void p19HeightsOfALargerHullAreGone(Run x) {
        x.after("hull(9, 7)");
        for (int s = 0; s < 9; s++) {
            x.after(call("offset", s, s % 2 == 0 ? 0 : 6, 5));
        }
        x.due("breaks(5)", 6).after("hull(5, 4)").due("breaks(5)", 0);
    }

    static void p19LargestLowerNumbers(Run x) {
        // At 998 stations 0 and 4 have 998 by 999, those between 0: just less than 100 off.
        int[] low = {998, 100, 100, 100};
        x.hull(new int[][] {{0, 999, 0, 0}, low, low, low, {0, 999, 0, 0}});
        x.bound(99).due("breaks(998)", 2);
        x.bound(100).due("breaks(998)", 0);
    }

    static void p19FourLargestLowerNumbers(Run x) {
        // Heights at 998 are 998 by 999 at station 0, and 1 more at the others: just 100 off.
        int[] late = {0, 0, 999, 0};
        x.hull(new int[][] {{0, 999, 0, 0}, late, late, late, late});
        x.bound(99).due("breaks(998)", 1);
        x.bound(100).due("breaks(998)", 0);
    }

    static void p19LargestOfAllNumbers(Run x) {
        // Heights at 998 are 5 and 998 by 999 at each other station, 0 between: nearly 2400 off.
        int[] late = {0, 0, 0, 0, 0, 0, 999};
        int[] early = {999, 0, 0, 0, 0, 0, 0};
        x.hull(new int[][] {late, early, late, early, late}).bound(999).due("breaks(998)", 2);
    }

    static void p19ChangesNothing(Run x) {
        x.worn().changesNothing("breaks(25)");
    }

    // ---- promise 20: worst

    static void p20NoHeightAtAll(Run x) {
        x.bound(0).due("worst()", 1);
    }

    static void p20NoBreakAtAll(Run x) {
        hollowAtTwo(x).bound(150).due("worst()", 1);
    }

    static void p20AtTheBroadest(Run x) {
        // At 50 it is 150 off, at 49 only 147, at 51 less than 150.
        hollowAtTwo(x).bound(149).due("worst()", 50);
    }

    static void p20OfSeveralTheLeast(Run x) {
        // From 4 on it is 12 and more off.
        hollowAtTwo(x).bound(11).due("breaks(3)", 0).due("breaks(4)", 2).due("breaks(5)", 2).due("worst()", 4);
    }

    static void p20MoreBehindFewer(Run x) {
        // One break from 1 on, two from 200 on: where the most are, not the first.
        int[] broad = {500, 500, 500, 500};
        x.hull(new int[][] {{0, 1, 2, 999}, broad, broad, broad, {199, 500, 500, 500}}).bound(0);
        x.due("breaks(1)", 1).due("breaks(199)", 1).due("breaks(200)", 2).due("worst()", 200);
    }

    static void p20MoreAheadOfFewer(Run x) {
        int[] one = {0, 1, 1, 1};
        x.hull(new int[][] {{1, 1, 1, 1}, one, one, one, {0, 0, 2, 2}}).bound(0);
        x.due("breaks(1)", 2).due("worst()", 1);
    }

    static void p20At1(Run x) {
        x.flat(1).after("offset(0, 0, 0)").due("breaks(1)", 1).due("worst()", 1);
    }

    static void p20At2(Run x) {
        x.flat(2).after("offset(0, 0, 1)").due("breaks(1)", 0).due("breaks(2)", 1).due("worst()", 2);
    }

    static void p20At998(Run x) {
        x.flat(998).after("offset(0, 0, 997)").due("breaks(998)", 1).due("worst()", 998);
    }

    static void p20At999(Run x) {
        x.flat(999).after("offset(0, 0, 998)").due("breaks(998)", 0).due("breaks(999)", 1).due("worst()", 999);
    }

    static void p20ByTheBoundOfTheTime(Run x) {
        hollowAtTwo(x).bound(149).due("worst()", 50);
        x.bound(146).due("worst()", 49);
        x.bound(0).due("worst()", 1);
        x.bound(2).due("worst()", 1);
        x.bound(3).due("worst()", 2);
    }

    static void p20MostStations(Run x) {
        // At 7 all six fours break, at 1 to 6 none.
        x.after("hull(9, 7)");
        for (int s = 0; s < 9; s++) {
            x.after(call("offset", s, 0, s % 2 == 0 ? 7 : 6), call("offset", s, 1, 7));
        }
        x.due("breaks(6)", 0).due("breaks(7)", 6).due("worst()", 7);
    }

    static void p20ChangesNothing(Run x) {
        x.worn().changesNothing("worst()");
        x.wornLarge().changesNothing("worst()");
    }

    // ---- promise 21: many

    static void p21WhatBelow0(Run x) {
        x.worn().outside("many(-1)");
    }

    static void p21What0IsStations(Run x) {
        x.everySize((y, s, w) -> y.due("many(0)", s));
    }

    static void p21What1IsWaterLines(Run x) {
        x.everySize((y, s, w) -> y.due("many(1)", w));
    }

    static void p21What2IsHeld(Run x) {
        x.due("many(2)", 0).hold(0, 0).due("many(2)", 1).hold(6, 4).due("many(2)", 2);
        x.hold(6, 4).due("many(2)", 2).after("hold(0, 0, false)").due("many(2)", 1);
    }

    static void p21What3IsNotFair(Run x) {
        x.due("many(3)", 0).after("offset(3, 2, 4)").due("many(3)", 2);
    }

    static void p21What4IsFarFromPut(Run x) {
        x.station(50, 50, 50, 74).bound(0).reach(3).due("many(4)", 0).after("fair(1, 0)").due("many(4)", 12);
    }

    static void p21WhatAbove4(Run x) {
        x.worn().outside("many(5)");
    }

    static void p21WhatFarOff(Run x) {
        for (String far : FAR_OFF) {
            x.worn().outside(call("many", far));
        }
    }

    static void p21EachPointHeld(Run x) {
        x.everySize((y, s, w) -> {
            for (int point = 0; point < s * w; point++) {
                y.hold(point / w, point % w);
            }
            y.due("many(2)", s * w);
        });
    }

    static void p21EachLineIsNotFair(Run x) {
        x.everySize((y, s, w) -> {
            for (int point = 0; point < s * w; point++) {
                y.after(call("offset", point / w, point % w, (point / w + point % w) % 2 * 9));
            }
            y.due("many(3)", s + w);
        });
    }

    static void p21JumpsOfBoundAreFair(Run x) {
        x.after("offset(3, 2, 4)").bound(12).due("many(3)", 0);
        x.bound(11).due("many(3)", 2);
        x.bound(13).due("many(3)", 0);
    }

    static void p21LastLinesAreNotFair(Run x) {
        // The last points of their lines come into one jump, once.
        x.after("hull(9, 7)", "offset(8, 6, 11)").due("many(3)", 2);
        x.after("offset(8, 6, 10)").due("many(3)", 0);
    }

    static void p21LineWithSeveralRoughJumpsIsOne(Run x) {
        x.after("offset(3, 2, 400)").due("rough(0, 2)", 4).due("rough(1, 3)", 2).due("many(3)", 2);
    }

    static void p21UpsAndDownsDoNotCancel(Run x) {
        x.station(50, 50, 50, 74).bound(0).reach(3).after("fair(1, 0)");
        x.due("ofPoint(0, 0, 2)", 3).due("ofPoint(0, 1, 2)", -3).due("many(4)", 12);
    }

    static void p21EachPointFarFromPut(Run x) {
        x.after("hull(9, 7)").bound(0).reach(3);
        for (int point = 0; point < 63; point++) {
            x.after(call("offset", point / 7, point % 7, point / 7 % 2 == 0 ? 103 : 97));
        }
        x.after("rounds(1)").due("many(4)", 3 * 63);
    }

    static void p21PutAnewIsNotFar(Run x) {
        x.station(50, 50, 50, 74).bound(0).reach(3).after("fair(1, 0)", "offset(0, 0, 40)").due("many(4)", 9);
        x.after("back()").due("many(4)", 0);
    }

    static void p21OfANewHullAgain(Run x) {
        x.wornLarge().after("hull(9, 7)").due("many(2)", 0).due("many(3)", 0).due("many(4)", 0);
    }

    static void p21ChangesNothing(Run x) {
        for (int what = 0; what <= 4; what++) {
            x.worn().changesNothing(call("many", what));
        }
    }
}
