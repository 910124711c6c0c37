/** Promises 15 to 17: area, centre, volume. */
public final class AreasTest {
    private static final Check CHECK = new Check("AreasTest");
    private static final int MIN = Integer.MIN_VALUE;
    private static final int MAX = Integer.MAX_VALUE;

    /** By how many sixths each of n values counts by the RULE. */
    private static final int[][] SIXTHS = {
        {2, 8, 5, 3}, {2, 8, 4, 8, 2}, {2, 8, 4, 8, 5, 3}, {2, 8, 4, 8, 4, 8, 2},
        {2, 8, 4, 8, 4, 8, 5, 3}, {2, 8, 4, 8, 4, 8, 4, 8, 2}};

    public static void main(String[] args) {
        area();
        areaOfEachPoint();
        areaRefused();
        centre();
        centreOfEachPoint();
        centreRefused();
        volume();
        volumeOfEachPoint();
        volumeAtTheEnds();
        volumeRefused();
        CHECK.end();
    }

    private static void dueArea(HullOffsets x, int view, int k, long upper, long lower) {
        CHECK.due("area(" + view + ", " + k + ", 0)", x.area(view, k, 0), upper);
        CHECK.due("area(" + view + ", " + k + ", 1)", x.area(view, k, 1), lower);
    }

    private static void dueCentre(HullOffsets x, int view, int k, long upper, long lower) {
        CHECK.due("centre(" + view + ", " + k + ", 0)", x.centre(view, k, 0), upper);
        CHECK.due("centre(" + view + ", " + k + ", 1)", x.centre(view, k, 1), lower);
    }

    private static void dueVolume(HullOffsets x, int view, long upper, long lower) {
        CHECK.due("volume(" + view + ", 0)", x.volume(view, 0), upper);
        CHECK.due("volume(" + view + ", 1)", x.volume(view, 1), lower);
    }

    private static int[] sixths(int n) {
        return SIXTHS[n - 4];
    }

    private static void area() {
        dueArea(new HullOffsets(), 0, 0, 0, 1);
        dueArea(new HullOffsets(), 1, 6, 0, 1);
        dueArea(Hulls.withLine0(3, 6, 9, 6, 3), 0, 0, 240, 1);
        dueArea(Hulls.withLine0(3, 6, 9, 6, 3, 1), 0, 0, 260, 1);
        HullOffsets x = Hulls.withStation0(1, 2, 4, 8);
        // 13 thirds, and 6 more, times HIGH.
        dueArea(x, 1, 0, 155, 3);
        x.setting(3, 99);
        dueArea(x, 1, 0, 1023, 1);
        x.setting(2, 1);
        dueArea(x, 1, 0, 1023, 1);
        dueArea(x, 0, 3, 8, 3);
        x.setting(2, 99);
        dueArea(x, 0, 3, 264, 1);
    }

    private static void areaOfEachPoint() {
        for (int s = 5; s <= 9; s++) {
            for (int w = 4; w <= 7; w++) {
                HullOffsets x = new HullOffsets();
                x.setting(2, 1);
                x.setting(3, 1);
                x.hull(s, w);
                for (int i = 0; i < s; i++) {
                    x.offset(i, i % w, 6);
                    dueArea(x, 0, i % w, sixths(s)[i], 1);
                    dueArea(x, 1, i, sixths(w)[i % w], 1);
                    x.offset(i, i % w, 0);
                }
            }
        }
    }

    private static void areaRefused() {
        HullOffsets x = new HullOffsets();
        int[][] lost = {{2, 0, 0}, {-1, 0, 0}, {0, 5, 0}, {0, -1, 0}, {1, 7, 0}, {1, -1, 0}, {0, 0, 2}, {0, 0, -1},
            {1, 0, 2}, {MAX, 0, 0}, {MIN, 0, 0}, {0, MAX, 0}, {1, MIN, 0}, {0, 0, MAX}, {0, 0, MIN}};
        for (int[] of : lost) {
            CHECK.due("area(" + of[0] + ", " + of[1] + ", " + of[2] + ")", x.area(of[0], of[1], of[2]), HullOffsets.LOST);
        }
    }

    private static void centre() {
        dueCentre(Hulls.withLine0(3, 6, 9, 6, 3), 0, 0, 2, 1);
        HullOffsets x = Hulls.withStation0(1, 2, 4, 8);
        // 16 thirds and 16 more, by 13 thirds and 6 more.
        dueCentre(x, 1, 0, 64, 31);
        x.setting(2, 7);
        x.setting(3, 7);
        dueCentre(x, 1, 0, 64, 31);
        dueCentre(x, 0, 3, 0, 1);
    }

    private static void centreOfEachPoint() {
        for (int s = 5; s <= 9; s++) {
            HullOffsets x = new HullOffsets();
            x.hull(s, 7);
            for (int i = 0; i < s; i++) {
                x.offset(i, i % 7, 35);
                dueCentre(x, 0, i % 7, i, 1);
                dueCentre(x, 1, i, i % 7, 1);
                x.offset(i, i % 7, 0);
            }
        }
    }

    private static void centreRefused() {
        HullOffsets x = Hulls.withStation0(1, 1, 1, 1);
        CHECK.due("all is 0: upper", x.centre(1, 1, 0), HullOffsets.LOST);
        CHECK.due("all is 0: lower", x.centre(1, 1, 1), HullOffsets.LOST);
        int[][] lost = {{2, 0, 0}, {-1, 0, 0}, {0, 4, 0}, {0, -1, 0}, {1, 5, 0}, {1, -1, 0}, {0, 0, 2}, {0, 0, -1},
            {1, 0, 2}, {MAX, 0, 0}, {MIN, 0, 0}, {0, MAX, 0}, {1, MIN, 0}, {0, 0, MAX}, {0, 0, MIN}};
        for (int[] of : lost) {
            CHECK.due("centre(" + of[0] + ", " + of[1] + ", " + of[2] + ")",
                    x.centre(of[0], of[1], of[2]), HullOffsets.LOST);
        }
        dueCentre(x, 1, 0, 3, 2);
    }

    private static void volume() {
        dueVolume(new HullOffsets(), 0, 0, 1);
        dueVolume(new HullOffsets(), 1, 0, 1);
        HullOffsets x = new HullOffsets();
        for (int s = 0; s < 7; s++) {
            for (int w = 0; w < 5; w++) {
                x.offset(s, w, 11);
            }
        }
        // A box: 6 spaces by 4.
        dueVolume(x, 0, 11 * 6 * 4 * 50, 1);
        dueVolume(x, 1, 11 * 6 * 4 * 50, 1);
        x.setting(2, 3);
        x.setting(3, 2);
        dueVolume(x, 0, 11 * 6 * 4 * 6, 1);
        dueVolume(x, 1, 11 * 6 * 4 * 6, 1);
    }

    private static void volumeOfEachPoint() {
        for (int s = 5; s <= 9; s++) {
            for (int w = 4; w <= 7; w++) {
                HullOffsets x = new HullOffsets();
                x.setting(2, 2);
                x.setting(3, 5);
                x.hull(s, w);
                for (int i = 0; i < s; i++) {
                    x.offset(i, (i + s) % w, 36);
                    long want = 10L * sixths(s)[i] * sixths(w)[(i + s) % w];
                    dueVolume(x, 0, want, 1);
                    dueVolume(x, 1, want, 1);
                    x.offset(i, (i + s) % w, 0);
                }
            }
        }
    }

    private static void volumeAtTheEnds() {
        HullOffsets x = new HullOffsets();
        x.setting(2, 1);
        x.setting(3, 1);
        x.hull(6, 4);
        x.offset(4, 2, 1);
        dueVolume(x, 0, 25, 36);
        dueVolume(x, 1, 25, 36);
        x.hull(9, 7);
        for (int s = 0; s < 9; s++) {
            for (int w = 0; w < 7; w++) {
                x.offset(s, w, 999);
            }
        }
        x.setting(2, 99);
        x.setting(3, 99);
        dueVolume(x, 0, 8L * 6 * 999 * 99 * 99, 1);
        dueVolume(x, 1, 8L * 6 * 999 * 99 * 99, 1);
    }

    private static void volumeRefused() {
        HullOffsets x = new HullOffsets();
        int[][] lost = {{2, 0}, {-1, 0}, {MAX, 0}, {MIN, 1}, {0, 2}, {0, -1}, {1, 2}, {1, MAX}, {1, MIN}};
        for (int[] of : lost) {
            CHECK.due("volume(" + of[0] + ", " + of[1] + ")", x.volume(of[0], of[1]), HullOffsets.LOST);
        }
    }
}
