import java.math.BigInteger;

/**
 * The document's promises once more, in the plainest way and with none of the class's shortcuts:
 * LEAST by trying rows one after another, shares by BigInteger, every view by its own words.
 */
final class PlainHull {
    private static final long LOST = Long.MIN_VALUE;
    private static final int[] LOWEST = {0, 0, 1, 1};
    private static final int[] HIGHEST = {999, 3, 99, 99};

    private int s = 7;
    private int w = 5;
    private int[][] now = new int[7][5];
    private int[][] put = new int[7][5];
    private boolean[][] held = new boolean[7][5];
    private final int[] settings = {10, 2, 10, 5};

    int hull(int stations, int lines) {
        if (stations < 5 || stations > 9 || lines < 4 || lines > 7) {
            return -2;
        }
        s = stations;
        w = lines;
        now = new int[s][w];
        put = new int[s][w];
        held = new boolean[s][w];
        return 1;
    }

    private boolean point(int station, int line) {
        return station >= 0 && station < s && line >= 0 && line < w;
    }

    int offset(int station, int line, int v) {
        if (!point(station, line)) {
            return -1;
        }
        if (v < 0 || v > 999) {
            return -2;
        }
        int was = now[station][line];
        now[station][line] = v;
        put[station][line] = v;
        return was;
    }

    int hold(int station, int line, boolean is) {
        if (!point(station, line)) {
            return -1;
        }
        boolean was = held[station][line];
        held[station][line] = is;
        return was == is ? 0 : 1;
    }

    int setting(int k, int v) {
        if (k < 0 || k > 3 || v < LOWEST[k] || v > HIGHEST[k]) {
            return -2;
        }
        int was = settings[k];
        settings[k] = v;
        return was;
    }

    int ofPoint(int station, int line, int what) {
        if (!point(station, line)) {
            return -1;
        }
        if (what == 0) {
            return now[station][line];
        }
        if (what == 1) {
            return held[station][line] ? 1 : 0;
        }
        return what == 2 ? now[station][line] - put[station][line] : -2;
    }

    private int refusal(int view, int k) {
        if (view != 0 && view != 1) {
            return -2;
        }
        return k < 0 || k >= (view == 0 ? w : s) ? -1 : 0;
    }

    private int[] line(int view, int k) {
        if (view == 1) {
            return now[k].clone();
        }
        int[] row = new int[s];
        for (int i = 0; i < s; i++) {
            row[i] = now[i][k];
        }
        return row;
    }

    private static int[] bends(int[] row) {
        int[] bends = new int[row.length];
        for (int i = 1; i <= row.length - 2; i++) {
            bends[i] = row[i - 1] + row[i + 1] - 2 * row[i];
        }
        return bends;
    }

    private static int[] jumps(int[] row) {
        int[] bends = bends(row);
        int[] jumps = new int[row.length];
        for (int i = 1; i <= row.length - 3; i++) {
            jumps[i] = bends[i + 1] - bends[i];
        }
        return jumps;
    }

    int bend(int view, int k, int i) {
        int refusal = refusal(view, k);
        if (refusal != 0) {
            return refusal;
        }
        int[] row = line(view, k);
        return i <= 0 || i >= row.length - 1 ? -2 : bends(row)[i];
    }

    int jump(int view, int k, int i) {
        int refusal = refusal(view, k);
        if (refusal != 0) {
            return refusal;
        }
        int[] row = line(view, k);
        return i <= 0 || i >= row.length - 2 ? -2 : jumps(row)[i];
    }

    int roughest(int what) {
        if (what < 0 || what > 3) {
            return -2;
        }
        int[] best = {-1, 0, 0, 0};
        for (int view = 0; view < 2; view++) {
            for (int k = 0; k < (view == 0 ? w : s); k++) {
                int[] jumps = jumps(line(view, k));
                for (int i = 1; i <= jumps.length - 3; i++) {
                    if (Math.abs(jumps[i]) > best[0]) {
                        best = new int[] {Math.abs(jumps[i]), view, k, i};
                    }
                }
            }
        }
        return best[what];
    }

    private int roughOf(int[] row) {
        int count = 0;
        for (int jump : jumps(row)) {
            if (Math.abs(jump) > settings[0]) {
                count++;
            }
        }
        return count;
    }

    int rough(int view, int k) {
        int refusal = refusal(view, k);
        return refusal != 0 ? refusal : roughOf(line(view, k));
    }

    /** Rows in their order whose numbers are together just so many; the first that is MOVES is LEAST of that sum. */
    private boolean firstRow(int[] row, boolean[] fixed, int[] moves, int at, int left) {
        if (at == row.length) {
            return left == 0 && roughOf(sum(row, moves)) == 0;
        }
        if (at >= 4 && roughEndingAt(row, moves, at - 1)) {
            return false;
        }
        int reach = fixed[at] ? 0 : settings[1];
        for (int m = -reach; m <= reach; m++) {
            if (Math.abs(m) <= left && row[at] + m >= 0 && row[at] + m <= 999) {
                moves[at] = m;
                if (firstRow(row, fixed, moves, at + 1, left - Math.abs(m))) {
                    return true;
                }
            }
        }
        moves[at] = 0;
        return false;
    }

    private boolean roughEndingAt(int[] row, int[] moves, int end) {
        int[] four = new int[4];
        for (int i = 0; i < 4; i++) {
            four[i] = row[end - 3 + i] + moves[end - 3 + i];
        }
        return roughOf(four) > 0;
    }

    private static int[] sum(int[] row, int[] moves) {
        int[] sum = new int[row.length];
        for (int i = 0; i < row.length; i++) {
            sum[i] = row[i] + moves[i];
        }
        return sum;
    }

    /** LEAST, or null. */
    private int[] leastRow(int view, int k) {
        int[] row = line(view, k);
        boolean[] fixed = new boolean[row.length];
        for (int i = 0; i < row.length; i++) {
            fixed[i] = view == 0 ? held[i][k] : held[k][i];
        }
        int[] moves = new int[row.length];
        for (int total = 0; total <= row.length * settings[1]; total++) {
            if (firstRow(row, fixed, moves, 0, total)) {
                return moves;
            }
        }
        return null;
    }

    private static int together(int[] moves) {
        int together = 0;
        for (int m : moves) {
            together += Math.abs(m);
        }
        return together;
    }

    int least(int view, int k, int i) {
        int refusal = refusal(view, k);
        if (refusal != 0) {
            return refusal;
        }
        if (i < -1 || i >= line(view, k).length) {
            return -2;
        }
        int[] moves = leastRow(view, k);
        if (moves == null) {
            return -9;
        }
        return i == -1 ? together(moves) : moves[i];
    }

    int fair(int view, int k) {
        int refusal = refusal(view, k);
        if (refusal != 0) {
            return refusal;
        }
        int[] moves = leastRow(view, k);
        if (moves == null) {
            return -3;
        }
        for (int i = 0; i < moves.length; i++) {
            if (view == 0) {
                now[i][k] += moves[i];
            } else {
                now[k][i] += moves[i];
            }
        }
        return together(moves);
    }

    int rounds(int n) {
        if (n < 1 || n > 20) {
            return -2;
        }
        int count = 0;
        boolean same = false;
        while (count < n && !same) {
            String begun = java.util.Arrays.deepToString(now);
            for (int k = 0; k < w; k++) {
                fair(0, k);
            }
            for (int k = 0; k < s; k++) {
                fair(1, k);
            }
            count++;
            same = begun.equals(java.util.Arrays.deepToString(now));
        }
        return count;
    }

    int back() {
        int count = 0;
        for (int i = 0; i < s; i++) {
            for (int k = 0; k < w; k++) {
                if (now[i][k] != put[i][k]) {
                    count++;
                    now[i][k] = put[i][k];
                }
            }
        }
        return count;
    }

    /** A share: upper and lower number, in least terms. */
    private record Share(BigInteger upper, BigInteger lower) {
        static Share of(long upper, long lower) {
            return new Share(BigInteger.valueOf(upper), BigInteger.valueOf(lower)).inLeastTerms();
        }

        private Share inLeastTerms() {
            BigInteger common = upper.gcd(lower);
            return new Share(upper.divide(common), lower.divide(common));
        }

        Share plus(Share other) {
            return new Share(upper.multiply(other.lower).add(other.upper.multiply(lower)),
                    lower.multiply(other.lower)).inLeastTerms();
        }

        Share times(long n) {
            return new Share(upper.multiply(BigInteger.valueOf(n)), lower).inLeastTerms();
        }

        Share by(Share other) {
            return new Share(upper.multiply(other.lower), lower.multiply(other.upper)).inLeastTerms();
        }

        long told(int which) {
            return (which == 0 ? upper : lower).longValueExact();
        }
    }

    private static Share ruled(Share[] values) {
        int n = values.length;
        if (n % 2 == 0) {
            return ruled(java.util.Arrays.copyOf(values, n - 1))
                    .plus(values[n - 2].plus(values[n - 1]).by(Share.of(2, 1)));
        }
        Share sum = Share.of(0, 1);
        for (int i = 0; i < n; i++) {
            int times = i == 0 || i == n - 1 ? 1 : i % 2 == 1 ? 4 : 2;
            sum = sum.plus(values[i].times(times));
        }
        return sum.by(Share.of(3, 1));
    }

    private Share lineSum(int view, int k, boolean placed) {
        int[] row = line(view, k);
        Share[] values = new Share[row.length];
        for (int i = 0; i < row.length; i++) {
            values[i] = Share.of(placed ? (long) row[i] * i : row[i], 1);
        }
        return ruled(values);
    }

    private Share areaOf(int view, int k) {
        return lineSum(view, k, false).times(view == 0 ? settings[2] : settings[3]);
    }

    long area(int view, int k, int which) {
        return refusal(view, k) != 0 || which < 0 || which > 1 ? LOST : areaOf(view, k).told(which);
    }

    long centre(int view, int k, int which) {
        if (refusal(view, k) != 0 || which < 0 || which > 1) {
            return LOST;
        }
        Share whole = lineSum(view, k, false);
        return whole.upper().signum() == 0 ? LOST : lineSum(view, k, true).by(whole).told(which);
    }

    long volume(int view, int which) {
        if (view < 0 || view > 1 || which < 0 || which > 1) {
            return LOST;
        }
        Share[] areas = new Share[view == 0 ? w : s];
        for (int k = 0; k < areas.length; k++) {
            areas[k] = areaOf(view, k);
        }
        return ruled(areas).times(view == 0 ? settings[3] : settings[2]).told(which);
    }

    private Share heightOf(int station, int b) {
        for (int line = 0; line < w; line++) {
            if (now[station][line] >= b) {
                if (line == 0) {
                    return Share.of(0, 1);
                }
                int below = now[station][line - 1];
                return Share.of(line - 1, 1).plus(Share.of(b - below, now[station][line] - below));
            }
        }
        return null;
    }

    long height(int station, int b, int which) {
        if (station < 0 || station >= s || b < 1 || b > 999 || which < 0 || which > 1) {
            return LOST;
        }
        Share height = heightOf(station, b);
        return height == null ? LOST : height.told(which);
    }

    int breaks(int b) {
        if (b < 1 || b > 999) {
            return -2;
        }
        Share[] heights = new Share[s];
        for (int station = 0; station < s; station++) {
            heights[station] = heightOf(station, b);
        }
        int count = 0;
        for (int i = 0; i + 3 < s; i++) {
            if (heights[i] != null && heights[i + 1] != null && heights[i + 2] != null && heights[i + 3] != null) {
                Share third = heights[i + 3].plus(heights[i + 2].times(-3))
                        .plus(heights[i + 1].times(3)).plus(heights[i].times(-1)).times(100);
                BigInteger far = third.upper().abs();
                if (far.compareTo(third.lower().multiply(BigInteger.valueOf(settings[0]))) > 0) {
                    count++;
                }
            }
        }
        return count;
    }

    int worst() {
        int worst = 1;
        int most = breaks(1);
        for (int b = 2; b <= 999; b++) {
            int count = breaks(b);
            if (count > most) {
                most = count;
                worst = b;
            }
        }
        return worst;
    }

    int many(int what) {
        int held2 = 0;
        int far = 0;
        for (int i = 0; i < s; i++) {
            for (int k = 0; k < w; k++) {
                held2 += held[i][k] ? 1 : 0;
                far += Math.abs(now[i][k] - put[i][k]);
            }
        }
        int unfair = 0;
        for (int k = 0; k < w; k++) {
            unfair += rough(0, k) > 0 ? 1 : 0;
        }
        for (int k = 0; k < s; k++) {
            unfair += rough(1, k) > 0 ? 1 : 0;
        }
        int[] answers = {s, w, held2, unfair, far};
        return what < 0 || what > 4 ? -2 : answers[what];
    }
}
