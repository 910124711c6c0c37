/** Makes hulls for the tests, and tells what can be seen of them from outside. */
final class Hulls {
    private Hulls() {
    }

    /** A hull with these offsets, a row for each station. */
    static HullOffsets of(int[][] stations) {
        HullOffsets x = new HullOffsets();
        x.hull(stations.length, stations[0].length);
        for (int s = 0; s < stations.length; s++) {
            for (int w = 0; w < stations[s].length; w++) {
                x.offset(s, w, stations[s][w]);
            }
        }
        return x;
    }

    /** A hull of 5 stations and 4 water lines; station 0 has these offsets, the others 0. */
    static HullOffsets withStation0(int... offsets) {
        return of(new int[][] {offsets, new int[4], new int[4], new int[4], new int[4]});
    }

    /** A hull with as many stations as there are offsets and 4 water lines; water line 0 has the offsets. */
    static HullOffsets withLine0(int... offsets) {
        int[][] stations = new int[offsets.length][4];
        for (int s = 0; s < offsets.length; s++) {
            stations[s][0] = offsets[s];
        }
        return of(stations);
    }

    /** All that a point tells, of all points, and how many there are of each thing: two states that differ differ here. */
    static String seen(HullOffsets x) {
        int stations = x.many(0);
        int lines = x.many(1);
        StringBuilder all = new StringBuilder();
        for (int s = 0; s < stations; s++) {
            for (int w = 0; w < lines; w++) {
                for (int what = 0; what <= 2; what++) {
                    all.append(x.ofPoint(s, w, what)).append(what == 2 ? ' ' : ',');
                }
            }
            all.append('\n');
        }
        for (int k = 0; k < 4; k++) {
            int was = settingOf(x, k);
            all.append(was).append(' ');
        }
        return all.toString();
    }

    /** A setting can only be read by setting it: it is set to 1, which all of them may be, and set back. */
    static int settingOf(HullOffsets x, int k) {
        int was = x.setting(k, 1);
        x.setting(k, was);
        return was;
    }

    /** The offsets of station s as text. */
    static String station(HullOffsets x, int s) {
        StringBuilder row = new StringBuilder();
        for (int w = 0; w < x.many(1); w++) {
            row.append(w == 0 ? "" : " ").append(x.ofPoint(s, w, 0));
        }
        return row.toString();
    }

    /** LEAST of a line as text, without the total. */
    static String least(HullOffsets x, int view, int k) {
        StringBuilder row = new StringBuilder();
        int points = view == 0 ? x.many(0) : x.many(1);
        for (int i = 0; i < points; i++) {
            row.append(i == 0 ? "" : " ").append(x.least(view, k, i));
        }
        return row.toString();
    }
}
