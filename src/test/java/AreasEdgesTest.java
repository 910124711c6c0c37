/** The edges of promises 15 to 17, each by a case of its own: area, centre, volume. */
public final class AreasEdgesTest {
    private static final String[] FAR_OFF = {"MIN", "MAX", "256", "65536", "1073741824", "-2147483647"};

    public static void main(String[] args) {
        Cases.run(AreasEdgesTest.class, 15, 17);
    }

    private static String call(String method, Object... arguments) {
        return Run.call(method, arguments);
    }

    /** LONG and HIGH are 1, so that an AREA is the SUM itself. */
    private static Run unit(Run x) {
        return x.after("setting(2, 1)", "setting(3, 1)");
    }

    /** The first n of 1, 2, 4, 8 and so on: no two of them can be taken for one another. */
    private static int[] doubling(int n) {
        int[] row = new int[n];
        for (int i = 0; i < n; i++) {
            row[i] = 1 << i;
        }
        return row;
    }

    private static Run full(Run x, int stations, int lines) {
        x.after(call("hull", stations, lines));
        for (int point = 0; point < stations * lines; point++) {
            x.after(call("offset", point / lines, point % lines, 999));
        }
        return x;
    }

    // ---- promise 15: area, and when it is LOST

    static void p15ViewBelow0(Run x) {
        x.worn().lost("area(-1, 0, 0)");
        x.worn().lost("area(-1, 0, 1)");
    }

    static void p15View0IsTimesLong(Run x) {
        x.waterLine(3, 6, 9, 6, 3).dueShare("area(0, 0", 240, 1);
    }

    static void p15View1IsTimesHigh(Run x) {
        x.station(1, 2, 4, 8).dueShare("area(1, 0", 155, 3);
    }

    static void p15ViewAbove1(Run x) {
        x.worn().lost("area(2, 0, 0)");
        x.worn().lost("area(2, 0, 1)");
    }

    static void p15LineBelow0(Run x) {
        x.worn().lost("area(0, -1, 0)");
        x.worn().lost("area(1, -1, 0)");
    }

    static void p15LastLine(Run x) {
        unit(x).after("hull(9, 7)", "offset(0, 6, 3)", "offset(8, 0, 3)");
        x.dueShare("area(0, 6", 1, 1).dueShare("area(1, 8", 1, 1);
    }

    static void p15LineBehindTheLast(Run x) {
        x.worn().lost("area(0, 4, 0)");
        x.worn().lost("area(1, 5, 0)");
        x.wornLarge().lost("area(0, 7, 1)");
        x.wornLarge().lost("area(1, 9, 1)");
    }

    static void p15LinesOfEverySize(Run x) {
        x.everySize((y, s, w) -> {
            y.dueShare("area(0, " + (w - 1), 0, 1);
            y.due(call("area", 0, w, 0), HullOffsets.LOST);
            y.dueShare("area(1, " + (s - 1), 0, 1);
            y.due(call("area", 1, s, 0), HullOffsets.LOST);
        });
    }

    static void p15WhichBelow0(Run x) {
        x.worn().lost("area(0, 0, -1)");
        x.worn().lost("area(1, 0, -1)");
    }

    static void p15Which0And1(Run x) {
        unit(x).station(1, 0, 0, 0).due("area(1, 0, 0)", 1).due("area(1, 0, 1)", 3);
    }

    static void p15WhichAbove1(Run x) {
        x.worn().lost("area(0, 0, 2)");
        x.worn().lost("area(1, 0, 2)");
    }

    static void p15FarOff(Run x) {
        for (String far : FAR_OFF) {
            x.worn().lost(call("area", far, 0, 0));
            x.worn().lost(call("area", 0, far, 0));
            x.worn().lost(call("area", 1, far, 0));
            x.worn().lost(call("area", 0, 0, far));
        }
    }

    static void p15SeveralRefusals(Run x) {
        x.worn().lost("area(2, 99, 2)");
        x.worn().lost("area(0, 4, 2)");
        x.worn().lost("area(-1, -1, -1)");
    }

    static void p15ChangesNothing(Run x) {
        x.worn().changesNothing("area(0, 1, 0)");
        x.worn().changesNothing("area(1, 1, 1)");
    }

    // ---- promise 15: SUM by the RULE for each number of points

    static void p15FourWaterLines(Run x) {
        // 1 + 8 + 4 by 3, and 4 + 8 by 2.
        unit(x).station(doubling(4)).dueShare("area(1, 0", 31, 3);
    }

    static void p15FiveWaterLines(Run x) {
        // 1 + 8 + 8 + 32 + 16 by 3.
        unit(x).station(doubling(5)).dueShare("area(1, 0", 65, 3);
    }

    static void p15SixWaterLines(Run x) {
        // 65 by 3, and 16 + 32 by 2.
        unit(x).station(doubling(6)).dueShare("area(1, 0", 137, 3);
    }

    static void p15SevenWaterLines(Run x) {
        // 1 + 8 + 8 + 32 + 32 + 128 + 64 by 3.
        unit(x).station(doubling(7)).dueShare("area(1, 0", 91, 1);
    }

    static void p15FiveStations(Run x) {
        unit(x).waterLine(doubling(5)).dueShare("area(0, 0", 65, 3);
    }

    static void p15SixStations(Run x) {
        unit(x).waterLine(doubling(6)).dueShare("area(0, 0", 137, 3);
    }

    static void p15SevenStations(Run x) {
        unit(x).waterLine(doubling(7)).dueShare("area(0, 0", 91, 1);
    }

    static void p15EightStations(Run x) {
        // 91, and 64 + 128 by 2.
        unit(x).waterLine(doubling(8)).dueShare("area(0, 0", 187, 1);
    }

    static void p15NineStations(Run x) {
        // 1 + 8 + 8 + 32 + 32 + 128 + 128 + 512 + 256 by 3.
        unit(x).waterLine(doubling(9)).dueShare("area(0, 0", 1105, 3);
    }

    static void p15EvenLastPointIsAHalf(Run x) {
        unit(x).station(0, 0, 0, 1).dueShare("area(1, 0", 1, 2);
        x.waterLine(0, 0, 0, 0, 0, 0, 0, 1).dueShare("area(0, 0", 1, 2);
    }

    static void p15EvenLastPointButOneIsAThirdAndAHalf(Run x) {
        unit(x).station(0, 0, 1, 0).dueShare("area(1, 0", 5, 6);
        x.waterLine(0, 0, 0, 0, 1, 0).dueShare("area(0, 0", 5, 6);
    }

    static void p15OddEndsAreAThird(Run x) {
        unit(x).waterLine(1, 0, 0, 0, 0, 0, 0, 0, 0).dueShare("area(0, 0", 1, 3);
        x.waterLine(0, 0, 0, 0, 0, 0, 0, 0, 1).dueShare("area(0, 0", 1, 3);
    }

    // ---- promise 15: how large it may be, and its least terms

    static void p15AllOffsets0(Run x) {
        x.dueShare("area(0, 0", 0, 1).dueShare("area(1, 6", 0, 1);
    }

    static void p15AllOffsets0OfAnEvenNumber(Run x) {
        x.after("hull(6, 4)").dueShare("area(0, 0", 0, 1).dueShare("area(1, 0", 0, 1);
    }

    static void p15Long1(Run x) {
        x.waterLine(1, 0, 0, 0, 0).after("setting(2, 1)").dueShare("area(0, 0", 1, 3);
    }

    static void p15Long99(Run x) {
        x.waterLine(1, 0, 0, 0, 0).after("setting(2, 99)").dueShare("area(0, 0", 33, 1);
    }

    static void p15High1(Run x) {
        x.station(0, 0, 1, 0).after("setting(3, 1)").dueShare("area(1, 0", 5, 6);
    }

    static void p15High99(Run x) {
        x.station(0, 0, 1, 0).after("setting(3, 99)").dueShare("area(1, 0", 165, 2);
    }

    static void p15LongDoesNotTellInView1(Run x) {
        x.station(1, 2, 4, 8).after("setting(2, 99)").dueShare("area(1, 0", 155, 3);
    }

    static void p15HighDoesNotTellInView0(Run x) {
        x.waterLine(3, 6, 9, 6, 3).after("setting(3, 99)").dueShare("area(0, 0", 240, 1);
    }

    static void p15GreatestOfAll(Run x) {
        full(x, 9, 7).after("setting(2, 99)", "setting(3, 99)");
        x.dueShare("area(0, 0", 8 * 999 * 99, 1).dueShare("area(1, 8", 6 * 999 * 99, 1);
    }

    static void p15LeastTermsOfSixths(Run x) {
        unit(x).station(0, 0, 1, 0).dueShare("area(1, 0", 5, 6);
        x.after("offset(0, 2, 2)").dueShare("area(1, 0", 5, 3);
        x.after("offset(0, 2, 3)").dueShare("area(1, 0", 5, 2);
        x.after("offset(0, 2, 6)").dueShare("area(1, 0", 5, 1);
    }

    static void p15ByTheOffsetsOfTheTime(Run x) {
        unit(x).station(5, 5, 5, 8).bound(0).dueShare("area(1, 0", 33, 2);
        // It is 5 4 5 8 then: 26 by 3, and 13 by 2.
        x.after("fair(1, 0)").dueShare("area(1, 0", 91, 6);
        x.after("back()").dueShare("area(1, 0", 33, 2);
    }

    // ---- promise 16: centre, and when it is LOST

    static void p16ViewBelow0(Run x) {
        x.worn().lost("centre(-1, 0, 0)");
        x.worn().lost("centre(-1, 0, 1)");
    }

    static void p16View0(Run x) {
        x.waterLine(3, 6, 9, 6, 3).dueShare("centre(0, 0", 2, 1);
    }

    static void p16View1(Run x) {
        x.station(1, 2, 4, 8).dueShare("centre(1, 0", 64, 31);
    }

    static void p16ViewAbove1(Run x) {
        x.worn().lost("centre(2, 0, 0)");
        x.worn().lost("centre(2, 0, 1)");
    }

    static void p16LineBelow0(Run x) {
        x.worn().lost("centre(0, -1, 0)");
        x.worn().lost("centre(1, -1, 0)");
    }

    static void p16LastLine(Run x) {
        x.after("hull(9, 7)", "offset(5, 6, 3)", "offset(8, 4, 3)");
        x.dueShare("centre(0, 6", 5, 1).dueShare("centre(1, 8", 4, 1);
    }

    static void p16LineBehindTheLast(Run x) {
        x.worn().lost("centre(0, 4, 0)");
        x.worn().lost("centre(1, 5, 0)");
        x.wornLarge().lost("centre(0, 7, 1)");
        x.wornLarge().lost("centre(1, 9, 1)");
    }

    static void p16WhichBelow0(Run x) {
        x.worn().lost("centre(0, 0, -1)");
        x.worn().lost("centre(1, 0, -1)");
    }

    static void p16WhichAbove1(Run x) {
        x.worn().lost("centre(0, 0, 2)");
        x.worn().lost("centre(1, 0, 2)");
    }

    static void p16FarOff(Run x) {
        for (String far : FAR_OFF) {
            x.worn().lost(call("centre", far, 0, 0));
            x.worn().lost(call("centre", 0, far, 0));
            x.worn().lost(call("centre", 1, far, 0));
            x.worn().lost(call("centre", 0, 0, far));
        }
    }

    static void p16SeveralRefusals(Run x) {
        x.worn().lost("centre(2, 99, 2)");
        x.worn().lost("centre(0, 4, 2)");
        x.another().lost("centre(0, 0, 2)");
    }

    static void p16SumIs0(Run x) {
        x.lost("centre(0, 0, 0)").lost("centre(1, 0, 1)");
    }

    static void p16SumIs0InEverySize(Run x) {
        x.everySize((y, s, w) -> {
            y.due(call("centre", 0, w - 1, 0), HullOffsets.LOST);
            y.due(call("centre", 0, w - 1, 1), HullOffsets.LOST);
            y.due(call("centre", 1, s - 1, 0), HullOffsets.LOST);
            y.due(call("centre", 1, s - 1, 1), HullOffsets.LOST);
        });
    }

    static void p16SumIs0OfThisLineAlone(Run x) {
        x.station(1, 2, 4, 8).due("centre(1, 1, 0)", HullOffsets.LOST).due("centre(1, 0, 0)", 64);
    }

    static void p16SumIs0NoMore(Run x) {
        x.lost("centre(0, 0, 0)").after("offset(6, 0, 1)").dueShare("centre(0, 0", 6, 1);
        x.after("offset(6, 0, 0)").lost("centre(0, 0, 0)");
    }

    static void p16ChangesNothing(Run x) {
        x.worn().changesNothing("centre(0, 1, 0)");
        x.worn().changesNothing("centre(1, 1, 1)");
    }

    // ---- promise 16: for each number of points, and its ends

    static void p16FourWaterLines(Run x) {
        // 8 + 8 by 3, and 8 + 24 by 2.
        x.station(doubling(4)).dueShare("centre(1, 0", 64, 31);
    }

    static void p16FiveWaterLines(Run x) {
        // 8 + 16 + 96 + 64 by 3.
        x.station(doubling(5)).dueShare("centre(1, 0", 184, 65);
    }

    static void p16SixWaterLines(Run x) {
        // 184 by 3, and 64 + 160 by 2.
        x.station(doubling(6)).dueShare("centre(1, 0", 520, 137);
    }

    static void p16SevenWaterLines(Run x) {
        // 8 + 16 + 96 + 128 + 640 + 384 by 3.
        x.station(doubling(7)).dueShare("centre(1, 0", 424, 91);
    }

    static void p16FiveStations(Run x) {
        x.waterLine(doubling(5)).dueShare("centre(0, 0", 184, 65);
    }

    static void p16SixStations(Run x) {
        x.waterLine(doubling(6)).dueShare("centre(0, 0", 520, 137);
    }

    static void p16SevenStations(Run x) {
        x.waterLine(doubling(7)).dueShare("centre(0, 0", 424, 91);
    }

    static void p16EightStations(Run x) {
        // 424, and 384 + 896 by 2.
        x.waterLine(doubling(8)).dueShare("centre(0, 0", 1064, 187);
    }

    static void p16NineStations(Run x) {
        // 8 + 16 + 96 + 128 + 640 + 768 + 3584 + 2048 by 3.
        x.waterLine(doubling(9)).dueShare("centre(0, 0", 7288, 1105);
    }

    static void p16TheFirstPointAloneIs0By1(Run x) {
        x.station(7, 0, 0, 0).dueShare("centre(1, 0", 0, 1);
        x.waterLine(999, 0, 0, 0, 0, 0).dueShare("centre(0, 0", 0, 1);
    }

    static void p16TheLastPointAlone(Run x) {
        x.station(0, 0, 0, 7).dueShare("centre(1, 0", 3, 1);
        x.waterLine(0, 0, 0, 0, 0, 0, 0, 0, 999).dueShare("centre(0, 0", 8, 1);
    }

    static void p16LeastSumOfAll(Run x) {
        x.station(0, 0, 0, 0, 1).dueShare("centre(1, 0", 4, 1);
    }

    static void p16GreatestSumOfAll(Run x) {
        full(x, 9, 7).dueShare("centre(0, 6", 4, 1).dueShare("centre(1, 8", 3, 1);
    }

    static void p16LongAndHighDoNotTell(Run x) {
        x.station(1, 2, 4, 8).after("setting(2, 99)", "setting(3, 99)").dueShare("centre(1, 0", 64, 31);
        x.dueShare("centre(0, 3", 0, 1);
        x.waterLine(doubling(9)).dueShare("centre(0, 0", 7288, 1105);
    }

    // ---- promise 17: volume

    static void p17ViewBelow0(Run x) {
        x.worn().lost("volume(-1, 0)");
        x.worn().lost("volume(-1, 1)");
    }

    static void p17View0(Run x) {
        // Along each water line 1 by 3; by water lines 4 of 3.
        unit(x).after("hull(5, 5)", "offset(0, 1, 1)").dueShare("volume(0", 4, 9);
    }

    static void p17View1(Run x) {
        unit(x).after("hull(5, 5)", "offset(0, 1, 1)").dueShare("volume(1", 4, 9);
    }

    static void p17ViewAbove1(Run x) {
        x.worn().lost("volume(2, 0)");
        x.worn().lost("volume(2, 1)");
    }

    static void p17WhichBelow0(Run x) {
        x.worn().lost("volume(0, -1)");
        x.worn().lost("volume(1, -1)");
    }

    static void p17WhichAbove1(Run x) {
        x.worn().lost("volume(0, 2)");
        x.worn().lost("volume(1, 2)");
    }

    static void p17FarOff(Run x) {
        for (String far : FAR_OFF) {
            x.worn().lost(call("volume", far, 0));
            x.worn().lost(call("volume", 0, far));
            x.worn().lost(call("volume", 1, far));
        }
    }

    static void p17BothOutside(Run x) {
        x.worn().lost("volume(2, 2)");
        x.worn().lost("volume(-1, -1)");
    }

    static void p17AllOffsets0InEverySize(Run x) {
        x.everySize((y, s, w) -> y.dueShare("volume(0", 0, 1).dueShare("volume(1", 0, 1));
    }

    static void p17GreatestOfAll(Run x) {
        full(x, 9, 7).after("setting(2, 99)", "setting(3, 99)");
        x.dueShare("volume(0", 8L * 6 * 999 * 99 * 99, 1).dueShare("volume(1", 8L * 6 * 999 * 99 * 99, 1);
    }

    static void p17LeastOfAll(Run x) {
        unit(x).after("hull(5, 5)", "offset(4, 4, 1)").dueShare("volume(0", 1, 9).dueShare("volume(1", 1, 9);
    }

    static void p17ThirtySixths(Run x) {
        // Stations and water lines both even: the last point but one is 5 sixths in each.
        unit(x).after("hull(6, 4)", "offset(4, 2, 1)").dueShare("volume(0", 25, 36).dueShare("volume(1", 25, 36);
        x.after("offset(4, 2, 36)").dueShare("volume(0", 25, 1).dueShare("volume(1", 25, 1);
    }

    static void p17LongAndHighAreBothInBothViews(Run x) {
        unit(x).after("hull(5, 5)", "offset(0, 1, 9)").dueShare("volume(0", 4, 1);
        x.after("setting(2, 99)").dueShare("volume(0", 396, 1).dueShare("volume(1", 396, 1);
        x.after("setting(3, 99)").dueShare("volume(0", 39204, 1).dueShare("volume(1", 39204, 1);
        x.after("setting(2, 1)").dueShare("volume(0", 396, 1).dueShare("volume(1", 396, 1);
    }

    /** Six times the SUM of 0, 1, 4, 9 and so on, of n values. */
    private static long squares(int n) {
        int odd = n % 2 == 1 ? n : n - 1;
        long sixths = 2L * (odd - 1) * (odd - 1) * (odd - 1);
        return odd == n ? sixths : sixths + 3L * ((n - 2) * (n - 2) + (n - 1) * (n - 1));
    }

    /** Six times the SUM of 0, 1, 2, 3 and so on, of n values. */
    private static long steps(int n) {
        return 3L * (n - 1) * (n - 1);
    }

    private static void dueSixthsOfSixths(Run x, long want) {
        for (int view = 0; view <= 1; view++) {
            long upper = x.ask(call("volume", view, 0));
            long lower = x.ask(call("volume", view, 1));
            x.isTrue("volume " + upper + " by " + lower + " is " + want + " by 36", upper * 36 == want * lower);
        }
    }

    static void p17EveryNumberOfStations(Run x) {
        x.everySize((y, s, w) -> {
            unit(y);
            for (int point = 0; point < s * w; point++) {
                int station = point / w;
                y.after(call("offset", station, point % w, station * station * (point % w)));
            }
            dueSixthsOfSixths(y, squares(s) * steps(w));
        });
    }

    static void p17EveryNumberOfWaterLines(Run x) {
        x.everySize((y, s, w) -> {
            unit(y);
            for (int point = 0; point < s * w; point++) {
                int line = point % w;
                y.after(call("offset", point / w, line, point / w * line * line));
            }
            dueSixthsOfSixths(y, steps(s) * squares(w));
        });
    }

    static void p17ChangesNothing(Run x) {
        x.worn().changesNothing("volume(0, 0)");
        x.worn().changesNothing("volume(1, 1)");
    }
}
