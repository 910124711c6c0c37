/** The edges that the document's opening and its Terms name for all calls, each by a case of its own. */
public final class TermsEdgesTest {
    /** Each call with as many places for numbers as it has. */
    private static final String[] CALLS = {
        "hull(?, ?)", "offset(?, ?, ?)", "hold(?, ?, true)", "hold(?, ?, false)", "setting(?, ?)", "ofPoint(?, ?, ?)",
        "bend(?, ?, ?)", "jump(?, ?, ?)", "roughest(?)", "rough(?, ?)", "least(?, ?, ?)", "fair(?, ?)", "rounds(?)",
        "area(?, ?, ?)", "centre(?, ?, ?)", "volume(?, ?)", "height(?, ?, ?)", "breaks(?)", "many(?)"};

    /** Answered, but nothing is changed by them. */
    private static final String[] ASKING = {
        "ofPoint(2, 1, 0)", "bend(0, 1, 2)", "jump(0, 1, 2)", "roughest(3)", "rough(0, 1)", "least(0, 2, -1)",
        "least(1, 1, 0)", "area(0, 1, 0)", "centre(0, 1, 0)", "volume(1, 0)", "height(2, 35, 0)", "breaks(25)",
        "worst()", "many(3)"};

    public static void main(String[] args) {
        Cases.run(TermsEdgesTest.class, 1, 0);
    }

    private static String call(String method, Object... arguments) {
        return Run.call(method, arguments);
    }

    private static boolean isRefusal(long answer) {
        return answer == HullOffsets.UNKNOWN || answer == HullOffsets.OUTSIDE || answer == HullOffsets.LOST;
    }

    // ---- the 512 calls of an object

    static void termTheLastCallsArePromised(Run x) {
        for (int made = 1; made <= 510; made++) {
            x.due(call("offset", 0, 0, made), made - 1);
        }
        x.due("offset(0, 0, 999)", 510);
        x.due("ofPoint(0, 0, 2)", 0);
    }

    static void termTheLastCallOfTheDearestKind(Run x) {
        Run worn = x.wornLarge();
        for (int made = 0; made < 400; made++) {
            worn.after("least(0, 6, -1)");
        }
        worn.due("rounds(20)", x.wornLarge().ask("rounds(20)"));
    }

    static void termCallsBehindTheLastDoNotThrow(Run x) {
        for (int made = 0; made < 1000; made++) {
            x.askFreely(call("offset", made % 7, made % 5, made % 1000));
            x.askFreely("rounds(1)");
        }
        x.isTrue("calls behind the last one end", true);
    }

    // ---- refusals

    static void termTheWornHullsAreInUse(Run x) {
        // Else the cases of refused calls could not see that something has been changed.
        for (Run worn : new Run[] {x.worn(), x.wornLarge()}) {
            x.isTrue("points are moved", worn.ask("many(4)") > 0);
            worn.due("many(2)", 2);
            worn.due("setting(0, 2)", 2).due("setting(1, 3)", 3).due("setting(2, 7)", 7).due("setting(3, 4)", 4);
        }
    }

    static void termNumbersFarOffAreRefused(Run x) {
        for (String call : CALLS) {
            for (String far : new String[] {"MIN", "MAX", "-1000000", "1000000"}) {
                Run worn = x.worn();
                String was = worn.seen();
                long answer = worn.ask(call.replace("?", far));
                x.isTrue(call + " with " + far + " is refused, not " + answer, isRefusal(answer));
                x.same("all behind the refused " + call, worn.seen(), was);
            }
        }
    }

    static void termOneNumberFarOffIsRefused(Run x) {
        for (String call : CALLS) {
            int places = call.split("\\?", -1).length - 1;
            for (int place = 0; place < places; place++) {
                for (String far : new String[] {"MIN", "MAX"}) {
                    Run worn = x.worn();
                    String was = worn.seen();
                    long answer = worn.ask(withOneFarOff(call, place, far));
                    x.isTrue(call + " with " + far + " at " + place + " is refused, not " + answer, isRefusal(answer));
                    x.same("all behind the refused " + call, worn.seen(), was);
                }
            }
        }
    }

    /** The other numbers are as the call wants them. */
    private static String withOneFarOff(String call, int place, String far) {
        String fitting = call.startsWith("hull") ? "5" : "1";
        StringBuilder text = new StringBuilder();
        int at = 0;
        for (char c : call.toCharArray()) {
            if (c == '?') {
                text.append(at == place ? far : fitting);
                at++;
            } else {
                text.append(c);
            }
        }
        return text.toString();
    }

    static void termNumbersOfAllKindsNeverThrow(Run x) {
        String[] numbers = {"MIN", "-2", "-1", "0", "1", "2", "4", "5", "7", "9", "21", "999", "1000", "MAX"};
        Run small = x.worn();
        Run large = x.wornLarge();
        for (String call : CALLS) {
            for (String a : numbers) {
                for (String b : numbers) {
                    for (String c : numbers) {
                        String text = call.replaceFirst("\\?", a).replaceFirst("\\?", b).replaceFirst("\\?", c);
                        small.askFreely(text);
                        large.askFreely(text);
                    }
                }
            }
        }
        x.isTrue("no call throws", true);
    }

    static void termAskingChangesNothing(Run x) {
        for (String asking : ASKING) {
            x.worn().changesNothing(asking);
        }
    }

    static void termAskedTwiceToldTwice(Run x) {
        for (String asking : ASKING) {
            Run worn = x.worn();
            long answer = worn.ask(asking);
            worn.due(asking, answer);
        }
    }

    static void termARefusedCallDoesNotComeIntoTheNext(Run x) {
        // A refused call just ahead must not leave its line or its moves for the next one.
        Run worn = x.worn();
        long alone = worn.ask("least(0, 2, -1)");
        worn.after("offset(3, 0, 900)").due("fair(0, 0)", HullOffsets.STATE).due("least(0, 2, -1)", alone);
        worn.due("bend(0, 0, 0)", HullOffsets.OUTSIDE).due("least(0, 2, -1)", alone);
    }

    // ---- shares

    static void termZeroIs0By1(Run x) {
        x.dueShare("area(0, 0", 0, 1).dueShare("area(1, 0", 0, 1).dueShare("volume(0", 0, 1).dueShare("volume(1", 0, 1);
        x.after("offset(0, 0, 3)").dueShare("centre(0, 0", 0, 1).dueShare("height(0, 3", 0, 1);
    }

    static void termWholeNumbersAreBy1(Run x) {
        x.waterLine(3, 6, 9, 6, 3).dueShare("area(0, 0", 240, 1).dueShare("centre(0, 0", 2, 1);
        x.after("offset(0, 3, 9)").dueShare("height(0, 9", 3, 1);
    }

    static void termLeastTermsAndLowerAbove0(Run x) {
        Run worn = x.wornLarge();
        for (String start : new String[] {"area(0, 3", "area(1, 8", "centre(0, 3", "centre(1, 8", "volume(0", "volume(1",
            "height(1, 150", "height(4, 230"}) {
            long upper = worn.ask(start + ", 0)");
            long lower = worn.ask(start + ", 1)");
            x.isTrue(start + ") has a lower number above 0: " + lower, lower > 0);
            x.isTrue(start + ") is in least terms: " + upper + " by " + lower,
                    java.math.BigInteger.valueOf(upper).gcd(java.math.BigInteger.valueOf(lower)).intValue() == 1);
        }
    }

    // ---- all that is told is by how all is when it is asked

    static void termToldByTheBoundOfTheTime(Run x) {
        // Each of the four water lines has a jump of 5 or 8 from station 0.
        x.station(5, 5, 5, 8).bound(2).due("rough(1, 0)", 1).due("many(3)", 5).due("least(1, 0, -1)", 1);
        x.bound(3).due("rough(1, 0)", 0).due("many(3)", 4).due("least(1, 0, -1)", 0);
        x.bound(0).due("rough(1, 0)", 1).due("fair(1, 0)", 1);
    }

    static void termToldByTheReachOfTheTime(Run x) {
        x.station(50, 50, 50, 74).bound(0).reach(3).due("least(1, 0, -1)", 12);
        x.reach(2).due("least(1, 0, -1)", HullOffsets.NONE);
        x.reach(3).due("least(1, 0, -1)", 12);
    }

    static void termToldByWhatIsHeldAtTheTime(Run x) {
        x.station(5, 5, 5, 8).bound(0).dueLeast(1, 0, 1, "0 -1 0 0");
        x.hold(0, 1).dueLeast(1, 0, 1, "0 0 1 0");
        x.after("hold(0, 1, false)").dueLeast(1, 0, 1, "0 -1 0 0");
    }

    static void termToldByTheOffsetsOfTheTime(Run x) {
        x.station(5, 5, 5, 8).bound(0).due("jump(1, 0, 1)", 3).due("roughest(0)", 8);
        x.after("fair(1, 0)").due("jump(1, 0, 1)", 0).due("bend(1, 0, 1)", 2);
        x.after("back()").due("jump(1, 0, 1)", 3).due("bend(1, 0, 1)", 0);
        x.after("hull(5, 4)").due("jump(1, 0, 1)", 0).due("roughest(0)", 0);
    }

    static void termToldByTheSizesOfTheTime(Run x) {
        x.after("hull(9, 7)").due("bend(0, 6, 7)", 0).due("bend(1, 8, 5)", 0);
        x.after("hull(5, 4)").due("bend(0, 6, 7)", HullOffsets.UNKNOWN).due("bend(1, 8, 5)", HullOffsets.UNKNOWN);
        x.due("bend(0, 3, 4)", HullOffsets.OUTSIDE).due("bend(1, 4, 3)", HullOffsets.OUTSIDE);
        x.after("hull(9, 7)").due("bend(0, 3, 4)", 0).due("bend(1, 4, 3)", 0);
    }

    static void termToldByLongAndHighOfTheTime(Run x) {
        x.waterLine(3, 6, 9, 6, 3).dueShare("area(0, 0", 240, 1).after("setting(2, 1)").dueShare("area(0, 0", 24, 1);
        x.dueShare("area(1, 0", 5, 1).after("setting(3, 1)").dueShare("area(1, 0", 1, 1);
    }

    static void termARefusedSettingIsNotTheSettingOfTheTime(Run x) {
        x.station(5, 5, 5, 8).bound(3).outside("setting(0, 1000)").due("rough(1, 0)", 0);
        x.outside("setting(0, -1)").due("rough(1, 0)", 0);
    }
}
