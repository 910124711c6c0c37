/** The edges of promises 1 to 6, each by a case of its own: a new object, hull, offset, hold, setting, ofPoint. */
public final class OffsetsEdgesTest {
    public static void main(String[] args) {
        Cases.run(OffsetsEdgesTest.class, 1, 6);
    }

    private static String call(String method, Object... arguments) {
        return Run.call(method, arguments);
    }

    // ---- promise 1: a new object

    static void p01SevenStations(Run x) {
        x.due("many(0)", 7);
        x.due("ofPoint(6, 0, 0)", 0);
        x.due("ofPoint(7, 0, 0)", HullOffsets.UNKNOWN);
    }

    static void p01FiveWaterLines(Run x) {
        x.due("many(1)", 5);
        x.due("ofPoint(0, 4, 0)", 0);
        x.due("ofPoint(0, 5, 0)", HullOffsets.UNKNOWN);
    }

    static void p01EachOffsetIs0(Run x) {
        dueOfAllPoints(x, 7, 5, 0);
    }

    static void p01NoPointIsHeld(Run x) {
        dueOfAllPoints(x, 7, 5, 1);
        x.due("many(2)", 0);
    }

    static void p01EachPutIs0(Run x) {
        dueOfAllPoints(x, 7, 5, 2);
        x.due("many(4)", 0);
        x.due("back()", 0);
    }

    private static void dueOfAllPoints(Run x, int stations, int lines, int what) {
        for (int s = 0; s < stations; s++) {
            for (int w = 0; w < lines; w++) {
                x.due(call("ofPoint", s, w, what), 0);
            }
        }
    }

    static void p01BoundIs10(Run x) {
        x.due("setting(0, 0)", 10);
    }

    static void p01ReachIs2(Run x) {
        x.due("setting(1, 0)", 2);
    }

    static void p01LongIs10(Run x) {
        x.due("setting(2, 1)", 10);
    }

    static void p01HighIs5(Run x) {
        x.due("setting(3, 1)", 5);
    }

    static void p01AnotherObjectIsApart(Run x) {
        Run other = x.another();
        String asNew = other.seen();
        x.after("hull(9, 7)", "offset(0, 0, 5)", "hold(0, 0, true)", "setting(0, 1)", "setting(1, 1)");
        x.same("an object made ahead", other.seen(), asNew);
        x.same("an object made behind", x.another().seen(), asNew);
    }

    // ---- promise 2: hull

    static void p02OneStationTooFew(Run x) {
        x.worn().outside("hull(4, 5)");
    }

    static void p02FewestStations(Run x) {
        dueSize(x, 5, 5);
    }

    static void p02OneStationMoreThanTheFewest(Run x) {
        dueSize(x, 6, 5);
    }

    static void p02OneStationLessThanTheMost(Run x) {
        dueSize(x, 8, 5);
    }

    static void p02MostStations(Run x) {
        dueSize(x, 9, 5);
    }

    static void p02OneStationTooMany(Run x) {
        x.worn().outside("hull(10, 5)");
    }

    static void p02OneWaterLineTooFew(Run x) {
        x.worn().outside("hull(7, 3)");
    }

    static void p02FewestWaterLines(Run x) {
        dueSize(x, 7, 4);
    }

    static void p02OneWaterLineMoreThanTheFewest(Run x) {
        dueSize(x, 7, 5);
    }

    static void p02OneWaterLineLessThanTheMost(Run x) {
        dueSize(x, 7, 6);
    }

    static void p02MostWaterLines(Run x) {
        dueSize(x, 7, 7);
    }

    static void p02OneWaterLineTooMany(Run x) {
        x.worn().outside("hull(7, 8)");
    }

    static void p02FewestOfBoth(Run x) {
        dueSize(x, 5, 4);
    }

    static void p02MostOfBoth(Run x) {
        dueSize(x, 9, 7);
    }

    private static void dueSize(Run x, int stations, int lines) {
        x.due(call("hull", stations, lines), 1);
        x.due("many(0)", stations);
        x.due("many(1)", lines);
        x.due(call("ofPoint", stations - 1, lines - 1, 0), 0);
        x.due(call("ofPoint", stations, lines - 1, 0), HullOffsets.UNKNOWN);
        x.due(call("ofPoint", stations - 1, lines, 0), HullOffsets.UNKNOWN);
    }

    static void p02StationsAndWaterLinesAreNotChanged(Run x) {
        // Each number is one that only the other may be.
        x.worn().outside("hull(4, 9)");
        x.worn().outside("hull(4, 8)");
    }

    static void p02BothOutside(Run x) {
        x.worn().outside("hull(4, 3)");
        x.worn().outside("hull(10, 8)");
        x.worn().outside("hull(4, 8)");
        x.worn().outside("hull(10, 3)");
    }

    static void p02NoneAndLess(Run x) {
        x.worn().outside("hull(0, 5)");
        x.worn().outside("hull(7, 0)");
        x.worn().outside("hull(-7, 5)");
        x.worn().outside("hull(7, -5)");
        x.worn().outside("hull(-1, -1)");
    }

    static void p02FarOff(Run x) {
        for (String far : new String[] {"MIN", "MAX", "-2147483641", "263", "65543", "16777223"}) {
            x.worn().outside(call("hull", far, 5));
            x.worn().outside(call("hull", 7, far));
        }
    }

    static void p02RefusedOnALargeHull(Run x) {
        x.wornLarge().outside("hull(10, 7)");
        x.wornLarge().outside("hull(9, 8)");
    }

    static void p02OffsetsAreZeroAgain(Run x) {
        Run worn = x.worn().after("hull(5, 4)");
        dueOfAllPoints(worn, 5, 4, 0);
    }

    static void p02NothingIsHeldAgain(Run x) {
        Run worn = x.worn().due("many(2)", 2).after("hull(5, 4)");
        dueOfAllPoints(worn, 5, 4, 1);
        worn.due("many(2)", 0);
    }

    static void p02PutsAreZeroAgain(Run x) {
        Run worn = x.worn().after("hull(5, 4)");
        dueOfAllPoints(worn, 5, 4, 2);
        worn.due("many(4)", 0);
        worn.due("back()", 0);
        dueOfAllPoints(worn, 5, 4, 0);
    }

    static void p02SettingsStay(Run x) {
        Run worn = x.worn().after("hull(9, 7)");
        worn.due("setting(0, 0)", 2);
        worn.due("setting(1, 0)", 3);
        worn.due("setting(2, 1)", 7);
        worn.due("setting(3, 1)", 4);
    }

    static void p02SmallerAndLargerAgain(Run x) {
        Run large = x.wornLarge().after("hull(5, 4)", "hull(9, 7)");
        dueOfAllPoints(large, 9, 7, 0);
        large.due("many(2)", 0);
        large.due("many(4)", 0);
    }

    static void p02NewHullOnANewObject(Run x) {
        String asNew = x.seen();
        x.due("hull(7, 5)", 1);
        x.same("a new hull of the first size", x.seen(), asNew);
    }

    // ---- promise 3: offset

    static void p03ValueBelow0(Run x) {
        x.worn().outside("offset(0, 0, -1)");
    }

    static void p03Value0(Run x) {
        x.worn().due("offset(0, 0, 0)", 10).due("ofPoint(0, 0, 0)", 0);
    }

    static void p03Value1(Run x) {
        x.worn().due("offset(0, 0, 1)", 10).due("ofPoint(0, 0, 0)", 1);
    }

    static void p03Value998(Run x) {
        x.worn().due("offset(0, 0, 998)", 10).due("ofPoint(0, 0, 0)", 998);
    }

    static void p03Value999(Run x) {
        x.worn().due("offset(0, 0, 999)", 10).due("ofPoint(0, 0, 0)", 999);
    }

    static void p03ValueAbove999(Run x) {
        x.worn().outside("offset(0, 0, 1000)");
    }

    static void p03ValueFarOff(Run x) {
        for (String v : new String[] {"MIN", "MAX", "-999", "-1000", "65541", "16777221", "-2147483643"}) {
            x.worn().outside(call("offset", 0, 0, v));
        }
    }

    static void p03StationBelow0(Run x) {
        x.worn().unknown("offset(-1, 0, 5)");
    }

    static void p03FirstStation(Run x) {
        x.worn().due("offset(0, 2, 5)", 30).due("ofPoint(0, 2, 0)", 5);
    }

    static void p03LastStation(Run x) {
        x.worn().due("offset(4, 2, 5)", 31).due("ofPoint(4, 2, 0)", 5);
    }

    static void p03StationBehindTheLast(Run x) {
        x.worn().unknown("offset(5, 0, 5)");
        x.wornLarge().unknown("offset(9, 0, 5)");
    }

    static void p03StationFarOff(Run x) {
        for (String s : new String[] {"MIN", "MAX", "256", "65536", "1073741824", "-2147483647"}) {
            x.worn().unknown(call("offset", s, 0, 5));
        }
    }

    static void p03WaterLineBelow0(Run x) {
        // Ahead of station 1's first point another station's last one may lie.
        x.worn().unknown("offset(0, -1, 5)");
        x.worn().unknown("offset(1, -1, 5)");
        x.wornLarge().unknown("offset(1, -1, 5)");
    }

    static void p03FirstWaterLine(Run x) {
        x.worn().due("offset(2, 0, 5)", 15).due("ofPoint(2, 0, 0)", 5);
    }

    static void p03LastWaterLine(Run x) {
        x.worn().due("offset(2, 3, 5)", 47).due("ofPoint(2, 3, 0)", 5);
    }

    static void p03WaterLineBehindTheLast(Run x) {
        // Behind a station's last point another station's first one may lie.
        x.worn().unknown("offset(0, 4, 5)");
        x.wornLarge().unknown("offset(0, 7, 5)");
    }

    static void p03WaterLineFarOff(Run x) {
        for (String w : new String[] {"MIN", "MAX", "256", "65536", "1073741824", "-2147483647"}) {
            x.worn().unknown(call("offset", 0, w, 5));
        }
    }

    static void p03StationAndWaterLineAreNotChanged(Run x) {
        // The hull has a station 4, but no water line 4.
        x.worn().unknown("offset(3, 4, 5)");
        x.worn().due("offset(4, 3, 5)", 41);
    }

    static void p03NeitherStationNorWaterLine(Run x) {
        x.worn().unknown("offset(5, 4, 5)");
        x.worn().unknown("offset(-1, -1, 5)");
        x.worn().unknown("offset(MIN, MAX, 5)");
    }

    static void p03LastPointOfEverySize(Run x) {
        x.everySize((y, s, w) -> {
            y.due(call("offset", s - 1, w - 1, 999), 0);
            y.due(call("ofPoint", s - 1, w - 1, 0), 999);
            y.due(call("offset", s, w - 1, 999), HullOffsets.UNKNOWN);
            y.due(call("offset", s - 1, w, 999), HullOffsets.UNKNOWN);
        });
    }

    static void p03UnknownStationAheadOfOutside(Run x) {
        x.worn().unknown("offset(-1, 0, -1)");
        x.worn().unknown("offset(5, 0, 1000)");
    }

    static void p03UnknownWaterLineAheadOfOutside(Run x) {
        x.worn().unknown("offset(0, -1, 1000)");
        x.worn().unknown("offset(0, 4, -1)");
    }

    static void p03TellsWhatItWas(Run x) {
        x.due("offset(3, 2, 17)", 0);
        x.due("offset(3, 2, 18)", 17);
        x.due("offset(3, 2, 0)", 18);
        x.due("offset(3, 2, 0)", 0);
    }

    static void p03TheSameValueAgain(Run x) {
        x.after("offset(3, 2, 17)");
        x.due("offset(3, 2, 17)", 17);
        x.due("ofPoint(3, 2, 0)", 17);
    }

    static void p03OfAMovedPoint(Run x) {
        // Fairing moves point 3 of station 0 from 6 to 5: it tells 5, and PUT is the new value.
        x.station(5, 5, 5, 6).bound(0).after("fair(1, 0)");
        x.due("ofPoint(0, 3, 2)", -1);
        x.due("offset(0, 3, 9)", 5);
        x.due("ofPoint(0, 3, 2)", 0);
    }

    static void p03PutWhereItHasBeenMovedTo(Run x) {
        x.station(5, 5, 5, 6).bound(0).after("fair(1, 0)");
        x.due("offset(0, 3, 5)", 5);
        x.due("ofPoint(0, 3, 2)", 0);
        x.due("back()", 0);
        x.due("ofPoint(0, 3, 0)", 5);
    }

    static void p03RefusedOnAMovedPoint(Run x) {
        x.station(5, 5, 5, 6).bound(0).after("fair(1, 0)");
        x.outside("offset(0, 3, 1000)");
        x.due("ofPoint(0, 3, 2)", -1);
        x.due("back()", 1);
        x.due("ofPoint(0, 3, 0)", 6);
    }

    static void p03HeldPoint(Run x) {
        x.hold(3, 2);
        x.due("offset(3, 2, 17)", 0);
        x.due("ofPoint(3, 2, 0)", 17);
        x.due("ofPoint(3, 2, 1)", 1);
    }

    static void p03NoOtherPointChanges(Run x) {
        x.after("hull(9, 7)", "offset(4, 3, 999)");
        for (int s = 0; s < 9; s++) {
            for (int w = 0; w < 7; w++) {
                x.due(call("ofPoint", s, w, 0), s == 4 && w == 3 ? 999 : 0);
            }
        }
    }

    static void p03EachPointOfAFullHull(Run x) {
        x.after("hull(9, 7)");
        for (int point = 0; point < 63; point++) {
            x.due(call("offset", point / 7, point % 7, 900 + point), 0);
        }
        for (int point = 0; point < 63; point++) {
            x.due(call("ofPoint", point / 7, point % 7, 0), 900 + point);
        }
    }

    // ---- promise 4: hold

    static void p04IsHeld(Run x) {
        x.due("hold(3, 2, true)", 1).due("ofPoint(3, 2, 1)", 1).due("many(2)", 1);
    }

    static void p04WasHeld(Run x) {
        x.hold(3, 2).due("hold(3, 2, true)", 0).due("ofPoint(3, 2, 1)", 1).due("many(2)", 1);
    }

    static void p04IsNotHeld(Run x) {
        x.hold(3, 2).due("hold(3, 2, false)", 1).due("ofPoint(3, 2, 1)", 0).due("many(2)", 0);
    }

    static void p04WasNotHeld(Run x) {
        x.due("hold(3, 2, false)", 0).due("ofPoint(3, 2, 1)", 0).due("many(2)", 0);
    }

    static void p04StationBelow0(Run x) {
        x.worn().unknown("hold(-1, 0, true)");
        x.worn().unknown("hold(-1, 0, false)");
    }

    static void p04FirstStation(Run x) {
        x.due("hold(0, 2, true)", 1).due("ofPoint(0, 2, 1)", 1);
    }

    static void p04LastStation(Run x) {
        x.due("hold(6, 2, true)", 1).due("ofPoint(6, 2, 1)", 1);
    }

    static void p04StationBehindTheLast(Run x) {
        x.worn().unknown("hold(5, 0, true)");
        x.worn().unknown("hold(5, 0, false)");
        x.wornLarge().unknown("hold(9, 0, true)");
    }

    static void p04WaterLineBelow0(Run x) {
        x.worn().unknown("hold(0, -1, true)");
        x.worn().unknown("hold(1, -1, false)");
        x.wornLarge().unknown("hold(1, -1, true)");
    }

    static void p04FirstWaterLine(Run x) {
        x.due("hold(3, 0, true)", 1).due("ofPoint(3, 0, 1)", 1);
    }

    static void p04LastWaterLine(Run x) {
        x.due("hold(3, 4, true)", 1).due("ofPoint(3, 4, 1)", 1);
    }

    static void p04WaterLineBehindTheLast(Run x) {
        x.worn().unknown("hold(0, 4, true)");
        x.worn().unknown("hold(0, 4, false)");
        x.wornLarge().unknown("hold(0, 7, true)");
    }

    static void p04FarOff(Run x) {
        for (String far : new String[] {"MIN", "MAX", "256", "65536", "1073741824"}) {
            x.worn().unknown(call("hold", far, 0, true));
            x.worn().unknown(call("hold", 0, far, true));
        }
        x.worn().unknown("hold(MAX, MIN, false)");
    }

    static void p04LastPointOfEverySize(Run x) {
        x.everySize((y, s, w) -> {
            y.due(call("hold", s - 1, w - 1, true), 1);
            y.due(call("hold", s, w - 1, true), HullOffsets.UNKNOWN);
            y.due(call("hold", s - 1, w, true), HullOffsets.UNKNOWN);
            y.due("many(2)", 1);
        });
    }

    static void p04NoOtherPointChanges(Run x) {
        x.after("hull(9, 7)").hold(4, 3);
        for (int s = 0; s < 9; s++) {
            for (int w = 0; w < 7; w++) {
                x.due(call("ofPoint", s, w, 1), s == 4 && w == 3 ? 1 : 0);
            }
        }
    }

    static void p04OffsetAndPutStay(Run x) {
        x.station(5, 5, 5, 6).bound(0).after("fair(1, 0)");
        x.hold(0, 3);
        x.due("ofPoint(0, 3, 0)", 5);
        x.due("ofPoint(0, 3, 2)", -1);
    }

    static void p04OnePointInBothViews(Run x) {
        // Water line 1 is 5 5 6 5 5, station 2 is 5 6 5 5: the same point is moved in both.
        x.flat(5).bound(0).reach(1).after("offset(2, 1, 6)");
        x.dueLeast(0, 1, 1, "0 0 -1 0 0");
        x.dueLeast(1, 2, 1, "0 -1 0 0");
        x.hold(2, 1);
        x.dueLeast(0, 1, 4, "1 1 0 1 1");
        x.dueLeast(1, 2, 1, "0 0 1 0");
    }

    // ---- promise 5: setting

    static void p05BoundBelow0(Run x) {
        x.worn().outside("setting(0, -1)");
    }

    static void p05Bound0(Run x) {
        dueSetting(x, 0, 0, 10);
    }

    static void p05Bound1(Run x) {
        dueSetting(x, 0, 1, 10);
    }

    static void p05Bound998(Run x) {
        dueSetting(x, 0, 998, 10);
    }

    static void p05Bound999(Run x) {
        dueSetting(x, 0, 999, 10);
    }

    static void p05BoundAbove999(Run x) {
        x.worn().outside("setting(0, 1000)");
    }

    static void p05ReachBelow0(Run x) {
        x.worn().outside("setting(1, -1)");
    }

    static void p05Reach0(Run x) {
        dueSetting(x, 1, 0, 2);
    }

    static void p05Reach1(Run x) {
        dueSetting(x, 1, 1, 2);
    }

    static void p05Reach2(Run x) {
        dueSetting(x, 1, 2, 2);
    }

    static void p05Reach3(Run x) {
        dueSetting(x, 1, 3, 2);
    }

    static void p05ReachAbove3(Run x) {
        x.worn().outside("setting(1, 4)");
    }

    static void p05LongBelow1(Run x) {
        x.worn().outside("setting(2, 0)");
        x.worn().outside("setting(2, -1)");
    }

    static void p05Long1(Run x) {
        dueSetting(x, 2, 1, 10);
    }

    static void p05Long2(Run x) {
        dueSetting(x, 2, 2, 10);
    }

    static void p05Long98(Run x) {
        dueSetting(x, 2, 98, 10);
    }

    static void p05Long99(Run x) {
        dueSetting(x, 2, 99, 10);
    }

    static void p05LongAbove99(Run x) {
        x.worn().outside("setting(2, 100)");
    }

    static void p05HighBelow1(Run x) {
        x.worn().outside("setting(3, 0)");
        x.worn().outside("setting(3, -1)");
    }

    static void p05High1(Run x) {
        dueSetting(x, 3, 1, 5);
    }

    static void p05High2(Run x) {
        dueSetting(x, 3, 2, 5);
    }

    static void p05High98(Run x) {
        dueSetting(x, 3, 98, 5);
    }

    static void p05High99(Run x) {
        dueSetting(x, 3, 99, 5);
    }

    static void p05HighAbove99(Run x) {
        x.worn().outside("setting(3, 100)");
    }

    private static void dueSetting(Run x, int k, int v, int was) {
        x.due(call("setting", k, v), was);
        x.due(call("setting", k, v), v);
        int[] first = {10, 2, 10, 5};
        for (int other = 0; other <= 3; other++) {
            x.due(call("setting", other, first[other]), other == k ? v : first[other]);
        }
    }

    static void p05ValueFarOff(Run x) {
        for (int k = 0; k <= 3; k++) {
            for (String v : new String[] {"MIN", "MAX", "65537", "16777217", "-2147483647"}) {
                x.worn().outside(call("setting", k, v));
            }
        }
    }

    static void p05SettingBelow0(Run x) {
        x.worn().outside("setting(-1, 1)");
    }

    static void p05SettingAbove3(Run x) {
        x.worn().outside("setting(4, 1)");
    }

    static void p05SettingFarOff(Run x) {
        for (String k : new String[] {"MIN", "MAX", "256", "65536", "1073741824", "-2147483647"}) {
            x.worn().outside(call("setting", k, 1));
        }
    }

    static void p05NeitherSettingNorValue(Run x) {
        x.worn().outside("setting(4, -1)");
        x.worn().outside("setting(-1, 1000)");
    }

    static void p05OffsetsStayWhenBoundChanges(Run x) {
        Run worn = x.worn();
        String offsets = worn.offsetsOf(0, 1);
        worn.after("setting(0, 0)");
        x.same("water line 1", worn.offsetsOf(0, 1), offsets);
    }

    // ---- promise 6: ofPoint

    static void p06WhatBelow0(Run x) {
        x.worn().outside("ofPoint(0, 0, -1)");
    }

    static void p06What0IsItsOffset(Run x) {
        x.worn().due("ofPoint(0, 0, 0)", 10);
    }

    static void p06What1IsWhetherHeld(Run x) {
        x.worn().due("ofPoint(2, 1, 1)", 1).due("ofPoint(2, 2, 1)", 0);
    }

    static void p06What2IsOffsetLessPut(Run x) {
        // Station 0 is made 5 4 5 8; and 5 5 6 8, where point 1 is held.
        x.station(5, 5, 5, 8).bound(0).after("fair(1, 0)");
        x.due("ofPoint(0, 1, 2)", -1);
        x.due("ofPoint(0, 0, 2)", 0);
        x.after("offset(0, 1, 5)").hold(0, 1).after("fair(1, 0)");
        x.due("ofPoint(0, 2, 2)", 1);
    }

    static void p06WhatAbove2(Run x) {
        x.worn().outside("ofPoint(0, 0, 3)");
    }

    static void p06WhatFarOff(Run x) {
        for (String what : new String[] {"MIN", "MAX", "256", "65536", "-2147483647"}) {
            x.worn().outside(call("ofPoint", 0, 0, what));
        }
    }

    static void p06StationBelow0(Run x) {
        x.worn().unknown("ofPoint(-1, 0, 0)");
    }

    static void p06FirstStation(Run x) {
        x.worn().due("ofPoint(0, 3, 0)", 40);
    }

    static void p06LastStation(Run x) {
        x.worn().due("ofPoint(4, 3, 0)", 41);
    }

    static void p06StationBehindTheLast(Run x) {
        x.worn().unknown("ofPoint(5, 0, 0)");
        x.wornLarge().unknown("ofPoint(9, 0, 0)");
    }

    static void p06WaterLineBelow0(Run x) {
        x.worn().unknown("ofPoint(0, -1, 0)");
        x.wornLarge().unknown("ofPoint(1, -1, 0)");
    }

    static void p06FirstWaterLine(Run x) {
        x.worn().due("ofPoint(1, 0, 0)", 14);
    }

    static void p06LastWaterLine(Run x) {
        x.worn().due("ofPoint(1, 3, 0)", 44);
    }

    static void p06WaterLineBehindTheLast(Run x) {
        x.worn().unknown("ofPoint(0, 4, 0)");
        x.wornLarge().unknown("ofPoint(0, 7, 0)");
    }

    static void p06PointFarOff(Run x) {
        for (String far : new String[] {"MIN", "MAX", "256", "65536", "1073741824"}) {
            x.worn().unknown(call("ofPoint", far, 0, 0));
            x.worn().unknown(call("ofPoint", 0, far, 0));
        }
    }

    static void p06UnknownStationAheadOfOutside(Run x) {
        x.worn().unknown("ofPoint(5, 0, 3)");
        x.worn().unknown("ofPoint(-1, 0, -1)");
    }

    static void p06UnknownWaterLineAheadOfOutside(Run x) {
        x.worn().unknown("ofPoint(0, 4, 3)");
        x.worn().unknown("ofPoint(0, -1, -1)");
    }

    static void p06ChangesNothing(Run x) {
        for (int what = 0; what <= 2; what++) {
            x.worn().changesNothing(call("ofPoint", 2, 1, what));
        }
    }
}
