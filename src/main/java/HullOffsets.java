/**
 * Offsets of a hull made fair. The words in capitals, and the numbered promises behind each
 * public method, are those of the project's document.
 */
public final class HullOffsets {
    public static final int UNKNOWN = -1, OUTSIDE = -2, STATE = -3, NONE = -9;
    public static final long LOST = Long.MIN_VALUE;

    private static final int LEAST_STATIONS = 5, MOST_STATIONS = 9, FIRST_STATIONS = 7;
    private static final int LEAST_LINES = 4, MOST_LINES = 7, FIRST_LINES = 5;
    private static final int CELLS = MOST_STATIONS * MOST_LINES;
    private static final int MOST_POINTS = MOST_STATIONS;
    private static final int MOST_OFFSET = 999;
    private static final int MOST_REACH = 3;
    private static final int MOST_ROUNDS = 20;
    private static final int VIEWS = 2, WATER_LINE_VIEW = 0, STATION_VIEW = 1;

    private static final int BOUND = 0, REACH = 1, LONG = 2, HIGH = 3;
    private static final int[] SETTING_LOW = {0, 0, 1, 1};
    private static final int[] SETTING_TOP = {999, 3, 99, 99};
    private static final int[] SETTING_FIRST = {10, 2, 10, 5};

    /** No refusal is 0, so 0 stands for a call that is not refused. */
    private static final int FITS = 0;

    private final Grid grid = new Grid();
    private final Line taken = new Line();
    private final LeastMoves search = new LeastMoves();
    private final Heights heights = new Heights();
    private final int[] settings = SETTING_FIRST.clone();
    private final int[] asBegun = new int[CELLS];
    private final int[] values = new int[MOST_POINTS];

    public HullOffsets() {
        grid.renew(FIRST_STATIONS, FIRST_LINES);
    }

    // ---- 1 offsets

    public int hull(int stations, int lines) {
        if (isNot(stations, LEAST_STATIONS, MOST_STATIONS) || isNot(lines, LEAST_LINES, MOST_LINES)) {
            return OUTSIDE;
        }
        grid.renew(stations, lines);
        return 1;
    }

    public int offset(int station, int line, int v) {
        if (!grid.hasPoint(station, line)) {
            return UNKNOWN;
        }
        if (isNot(v, 0, MOST_OFFSET)) {
            return OUTSIDE;
        }
        return grid.put(cellOf(station, line), v);
    }

    public int hold(int station, int line, boolean is) {
        if (!grid.hasPoint(station, line)) {
            return UNKNOWN;
        }
        int cell = cellOf(station, line);
        if (grid.held[cell] == is) {
            return 0;
        }
        grid.held[cell] = is;
        return 1;
    }

    public int setting(int k, int v) {
        if (k < 0 || k >= settings.length || isNot(v, SETTING_LOW[k], SETTING_TOP[k])) {
            return OUTSIDE;
        }
        int was = settings[k];
        settings[k] = v;
        return was;
    }

    public int ofPoint(int station, int line, int what) {
        if (!grid.hasPoint(station, line)) {
            return UNKNOWN;
        }
        int cell = cellOf(station, line);
        switch (what) {
            case 0:
                return grid.offsets[cell];
            case 1:
                return grid.held[cell] ? 1 : 0;
            case 2:
                return grid.movedBy(cell);
            default:
                return OUTSIDE;
        }
    }

    public int bend(int view, int k, int i) {
        int refusal = refusalOfLine(view, k);
        if (refusal != FITS) {
            return refusal;
        }
        takeLine(view, k);
        return isNot(i, 1, taken.points - 2) ? OUTSIDE : taken.bendAt(i);
    }

    public int jump(int view, int k, int i) {
        int refusal = refusalOfLine(view, k);
        if (refusal != FITS) {
            return refusal;
        }
        takeLine(view, k);
        return isNot(i, 1, taken.points - 3) ? OUTSIDE : taken.jumpAt(i);
    }

    public int roughest(int what) {
        if (isNot(what, 0, 3)) {
            return OUTSIDE;
        }
        int far = 0;
        int farView = 0;
        int farLine = 0;
        for (int view = 0; view < VIEWS; view++) {
            for (int k = 0; k < grid.linesOf(view); k++) {
                takeLine(view, k);
                if (taken.farthestJump() > far) {
                    far = taken.farthestJump();
                    farView = view;
                    farLine = k;
                }
            }
        }
        switch (what) {
            case 0:
                return far;
            case 1:
                return farView;
            case 2:
                return farLine;
            default:
                takeLine(farView, farLine);
                return taken.firstJumpThatFar(far);
        }
    }

    public int rough(int view, int k) {
        int refusal = refusalOfLine(view, k);
        if (refusal != FITS) {
            return refusal;
        }
        takeLine(view, k);
        return taken.countJumpsBeyond(settings[BOUND]);
    }

    // ---- 2 made fair

    public int least(int view, int k, int i) {
        int refusal = refusalOfLine(view, k);
        if (refusal != FITS) {
            return refusal;
        }
        if (isNot(i, -1, grid.pointsOf(view) - 1)) {
            return OUTSIDE;
        }
        int total = seekLeast(view, k);
        return total == NONE || i < 0 ? total : search.moveOf(i);
    }

    public int fair(int view, int k) {
        int refusal = refusalOfLine(view, k);
        if (refusal != FITS) {
            return refusal;
        }
        int total = seekLeast(view, k);
        if (total == NONE) {
            return STATE;
        }
        addMoves(view, k);
        return total;
    }

    public int rounds(int n) {
        if (isNot(n, 1, MOST_ROUNDS)) {
            return OUTSIDE;
        }
        for (int count = 1; count < n; count++) {
            if (!roundChanges()) {
                return count;
            }
        }
        roundChanges();
        return n;
    }

    public int back() {
        int changed = 0;
        for (int cell = 0; cell < CELLS; cell++) {
            if (grid.movedBy(cell) != 0) {
                grid.offsets[cell] = grid.puts[cell];
                changed++;
            }
        }
        return changed;
    }

    // ---- 3 areas

    public long area(int view, int k, int which) {
        if (refusalOfLine(view, k) != FITS || isNot(which, 0, 1)) {
            return LOST;
        }
        return toldShare(areaInSixths(view, k), 6, which);
    }

    public long centre(int view, int k, int which) {
        if (refusalOfLine(view, k) != FITS || isNot(which, 0, 1)) {
            return LOST;
        }
        takeLine(view, k);
        int whole = sumInSixths(taken.offsets, taken.points);
        if (whole == 0) {
            return LOST;
        }
        for (int i = 0; i < taken.points; i++) {
            values[i] = taken.offsets[i] * i;
        }
        return toldShare(sumInSixths(values, taken.points), whole, which);
    }

    public long volume(int view, int which) {
        if (isNot(view, 0, VIEWS - 1) || isNot(which, 0, 1)) {
            return LOST;
        }
        int count = grid.linesOf(view);
        for (int k = 0; k < count; k++) {
            values[k] = areaInSixths(view, k);
        }
        long apart = view == WATER_LINE_VIEW ? settings[HIGH] : settings[LONG];
        return toldShare(sumInSixths(values, count) * apart, 36, which);
    }

    // ---- 4 the third view

    public long height(int station, int b, int which) {
        if (isNot(station, 0, grid.stations - 1) || isNot(b, 1, MOST_OFFSET) || isNot(which, 0, 1)) {
            return LOST;
        }
        heights.measure(grid, station, b);
        if (!heights.isThere(station)) {
            return LOST;
        }
        return toldShare(heights.upper[station], heights.lower[station], which);
    }

    public int breaks(int b) {
        return isNot(b, 1, MOST_OFFSET) ? OUTSIDE : heights.countBreaks(grid, b, settings[BOUND]);
    }

    public int worst() {
        // Beyond the broadest offset no station has a height, so nothing breaks there.
        int broadest = grid.broadest();
        int most = 0;
        int worst = 1;
        for (int b = 1; b <= broadest; b++) {
            int count = heights.countBreaks(grid, b, settings[BOUND]);
            if (count > most) {
                most = count;
                worst = b;
            }
        }
        return worst;
    }

    public int many(int what) {
        switch (what) {
            case 0:
                return grid.stations;
            case 1:
                return grid.lines;
            case 2:
                return grid.countHeld();
            case 3:
                return countUnfair();
            case 4:
                return grid.farFromPuts();
            default:
                return OUTSIDE;
        }
    }

    // ---- what the calls share

    private static boolean isNot(int v, int low, int top) {
        return v < low || v > top;
    }

    private static int cellOf(int station, int line) {
        return station * MOST_LINES + line;
    }

    private int refusalOfLine(int view, int k) {
        if (isNot(view, 0, VIEWS - 1)) {
            return OUTSIDE;
        }
        return isNot(k, 0, grid.linesOf(view) - 1) ? UNKNOWN : FITS;
    }

    private void takeLine(int view, int k) {
        grid.layOut(view, k, taken);
    }

    private int countUnfair() {
        int count = 0;
        for (int view = 0; view < VIEWS; view++) {
            for (int k = 0; k < grid.linesOf(view); k++) {
                takeLine(view, k);
                if (taken.farthestJump() > settings[BOUND]) {
                    count++;
                }
            }
        }
        return count;
    }

    /** How much LEAST is together, or NONE; the moves themselves are left in the search. */
    private int seekLeast(int view, int k) {
        int bound = settings[BOUND];
        int reach = settings[REACH];
        takeLine(view, k);
        int far = taken.farthestJump();
        if (far <= bound) {
            search.stay();
            return 0;
        }
        // Four moves come into a jump, 1, 3, 3 and 1 times, so it comes nearer to 0 by 8 reaches at most.
        if (far > bound + 8 * reach) {
            return NONE;
        }
        for (int i = 0; i < taken.points; i++) {
            boolean held = grid.held[grid.cell(view, k, i)];
            search.place(i, taken.offsets[i], held ? 0 : reach);
        }
        return search.seek(taken.points, bound);
    }

    private void addMoves(int view, int k) {
        int points = grid.pointsOf(view);
        for (int i = 0; i < points; i++) {
            grid.offsets[grid.cell(view, k, i)] += search.moveOf(i);
        }
    }

    /** One ROUND. What one view moves the other may move back, so only the offsets themselves tell a change. */
    private boolean roundChanges() {
        System.arraycopy(grid.offsets, 0, asBegun, 0, CELLS);
        for (int view = 0; view < VIEWS; view++) {
            for (int k = 0; k < grid.linesOf(view); k++) {
                if (seekLeast(view, k) != NONE) {
                    addMoves(view, k);
                }
            }
        }
        for (int cell = 0; cell < CELLS; cell++) {
            if (grid.offsets[cell] != asBegun[cell]) {
                return true;
            }
        }
        return false;
    }

    private int areaInSixths(int view, int k) {
        takeLine(view, k);
        int apart = view == WATER_LINE_VIEW ? settings[LONG] : settings[HIGH];
        return sumInSixths(taken.offsets, taken.points) * apart;
    }

    /**
     * SUM by the RULE, six times, so that its thirds and halves are whole. An int has room for it:
     * the greatest, of the areas of 9 stations and 7 water lines in sixths, is some 171 million.
     */
    private static int sumInSixths(int[] row, int n) {
        if (n < 3 || n > row.length) {
            return 0;
        }
        int ruled = n % 2 == 0 ? n - 1 : n;
        int thirds = row[0] + row[ruled - 1];
        for (int i = 1; i < ruled - 1; i++) {
            thirds += (i % 2 == 0 ? 2 : 4) * row[i];
        }
        int sixths = 2 * thirds;
        return ruled == n ? sixths : sixths + 3 * (row[n - 2] + row[n - 1]);
    }

    /** The upper (which 0) or the lower number of a share in least terms. */
    private static long toldShare(long upper, long lower, int which) {
        long common = commonDivisor(upper, lower);
        if (common == 0) {
            return LOST;
        }
        return which == 0 ? upper / common : lower / common;
    }

    private static long commonDivisor(long one, long other) {
        long a = one;
        long b = other;
        // Euclid's way takes at most 92 steps for longs; the counter only makes the end plain.
        for (int step = 0; step < 100 && b != 0; step++) {
            long left = a % b;
            a = b;
            b = left;
        }
        return a;
    }

    /**
     * The OFFSETS, what they were PUT to and which are HELD, by cells, a row of cells a STATION.
     * Cells that the hull does not use stay 0 and not held, so that loops may pass over all cells.
     */
    private static final class Grid {
        private final int[] offsets = new int[CELLS];
        private final int[] puts = new int[CELLS];
        private final boolean[] held = new boolean[CELLS];
        private int stations;
        private int lines;

        private void renew(int newStations, int newLines) {
            stations = newStations;
            lines = newLines;
            for (int cell = 0; cell < CELLS; cell++) {
                offsets[cell] = 0;
                puts[cell] = 0;
                held[cell] = false;
            }
        }

        private int put(int cell, int v) {
            int was = offsets[cell];
            offsets[cell] = v;
            puts[cell] = v;
            return was;
        }

        private boolean hasPoint(int station, int line) {
            return station >= 0 && station < stations && line >= 0 && line < lines;
        }

        private int linesOf(int view) {
            return view == STATION_VIEW ? stations : lines;
        }

        private int pointsOf(int view) {
            return view == STATION_VIEW ? lines : stations;
        }

        private int cell(int view, int k, int i) {
            return view == STATION_VIEW ? cellOf(k, i) : cellOf(i, k);
        }

        private void layOut(int view, int k, Line into) {
            into.points = pointsOf(view);
            for (int i = 0; i < into.points; i++) {
                into.offsets[i] = offsets[cell(view, k, i)];
            }
        }

        private int movedBy(int cell) {
            return offsets[cell] - puts[cell];
        }

        private int farFromPuts() {
            int far = 0;
            for (int cell = 0; cell < CELLS; cell++) {
                far += Math.abs(movedBy(cell));
            }
            return far;
        }

        private int countHeld() {
            int count = 0;
            for (int cell = 0; cell < CELLS; cell++) {
                if (held[cell]) {
                    count++;
                }
            }
            return count;
        }

        private int broadest() {
            int broadest = 0;
            for (int cell = 0; cell < CELLS; cell++) {
                broadest = Math.max(broadest, offsets[cell]);
            }
            return broadest;
        }
    }

    /** The OFFSETS of one LINE, laid out as a row by its POINTS. */
    private static final class Line {
        private final int[] offsets = new int[MOST_POINTS];
        private int points;

        private int bendAt(int i) {
            return offsets[i - 1] + offsets[i + 1] - 2 * offsets[i];
        }

        private int jumpAt(int i) {
            return bendAt(i + 1) - bendAt(i);
        }

        private int farthestJump() {
            int far = 0;
            for (int i = 1; i <= points - 3; i++) {
                far = Math.max(far, Math.abs(jumpAt(i)));
            }
            return far;
        }

        private int firstJumpThatFar(int far) {
            int i = 1;
            while (i < points - 3 && Math.abs(jumpAt(i)) != far) {
                i++;
            }
            return i;
        }

        private int countJumpsBeyond(int bound) {
            int count = 0;
            for (int i = 1; i <= points - 3; i++) {
                if (Math.abs(jumpAt(i)) > bound) {
                    count++;
                }
            }
            return count;
        }
    }

    /**
     * Seeks LEAST of one LINE. A JUMP spans four POINTS, so what a move may be depends on the three
     * moves before it alone. From the last POINT back to the first, for every three moves before a
     * POINT, the fewest that the moves from it on can be together are kept; then the moves are taken
     * from the first POINT on, the least number first that still leads to the fewest.
     */
    private static final class LeastMoves {
        private static final int BEFORE = 3;
        private static final int WIDTH = 2 * MOST_REACH + 1;
        private static final int TRIPLES = WIDTH * WIDTH * WIDTH;
        /** More than any moves can be together: with such moves before it the line can't be made fair. */
        private static final int NEVER = 1000;

        // Three places that never move stand before the first point, so that each point has three
        // before it: point i is at place i + BEFORE here.
        private final int[] from = new int[BEFORE + MOST_POINTS];
        private final int[] low = new int[BEFORE + MOST_POINTS];
        private final int[] top = new int[BEFORE + MOST_POINTS];
        private final int[] moves = new int[BEFORE + MOST_POINTS];
        // By how many points are left, and the three moves before them; with none left it stays 0.
        private final int[] fewest = new int[(MOST_POINTS + 1) * TRIPLES];
        private int points;
        private int bound;

        private void place(int i, int offset, int reach) {
            from[i + BEFORE] = offset;
            low[i + BEFORE] = Math.max(-reach, -offset);
            top[i + BEFORE] = Math.min(reach, MOST_OFFSET - offset);
        }

        private void stay() {
            for (int place = 0; place < moves.length; place++) {
                moves[place] = 0;
            }
        }

        private int moveOf(int i) {
            return moves[i + BEFORE];
        }

        private int seek(int newPoints, int newBound) {
            points = newPoints;
            bound = newBound;
            for (int i = points - 1; i >= 0; i--) {
                keepFewest(i);
            }
            int total = fewest[slot(0, 0, 0, 0)];
            if (total >= NEVER) {
                return NONE;
            }
            for (int i = 0; i < points; i++) {
                moves[i + BEFORE] = firstLeading(i, moves[i], moves[i + 1], moves[i + 2]);
            }
            return total;
        }

        private void keepFewest(int i) {
            for (int a = low[i]; a <= top[i]; a++) {
                for (int b = low[i + 1]; b <= top[i + 1]; b++) {
                    for (int c = low[i + 2]; c <= top[i + 2]; c++) {
                        fewest[slot(i, a, b, c)] = fewestFrom(i, a, b, c);
                    }
                }
            }
        }

        private int fewestFrom(int i, int a, int b, int c) {
            int behind = slot(i + 1, b, c, 0);
            int jump = jumpUnmoved(i, a, b, c);
            int last = lastFit(i, jump);
            int best = NEVER;
            for (int m = firstFit(i, jump); m <= last; m++) {
                best = Math.min(best, Math.abs(m) + fewest[behind + m]);
            }
            return best;
        }

        private int firstLeading(int i, int a, int b, int c) {
            int goal = fewest[slot(i, a, b, c)];
            int behind = slot(i + 1, b, c, 0);
            int jump = jumpUnmoved(i, a, b, c);
            int last = lastFit(i, jump);
            int m = firstFit(i, jump);
            while (m < last && Math.abs(m) + fewest[behind + m] != goal) {
                m++;
            }
            return m;
        }

        /** The JUMP whose last point is i, if i is not moved; 0, which bounds nothing, where none ends. */
        private int jumpUnmoved(int i, int a, int b, int c) {
            if (i < BEFORE) {
                return 0;
            }
            return from[i + 3] - 3 * (from[i + 2] + c) + 3 * (from[i + 1] + b) - (from[i] + a);
        }

        private int firstFit(int i, int jump) {
            int lowest = low[i + BEFORE];
            return i < BEFORE ? lowest : Math.max(lowest, -bound - jump);
        }

        private int lastFit(int i, int jump) {
            int highest = top[i + BEFORE];
            return i < BEFORE ? highest : Math.min(highest, bound - jump);
        }

        private int slot(int i, int a, int b, int c) {
            int triple = ((a + MOST_REACH) * WIDTH + b + MOST_REACH) * WIDTH + c + MOST_REACH;
            return (points - i) * TRIPLES + triple;
        }
    }

    /** HEIGHTS of the STATIONS at one breadth, as shares; a lower number of 0 says that there is none. */
    private static final class Heights {
        private final long[] upper = new long[MOST_STATIONS];
        private final long[] lower = new long[MOST_STATIONS];

        private boolean isThere(int station) {
            return lower[station] > 0;
        }

        private void measure(Grid grid, int station, int b) {
            int w = 0;
            while (w < grid.lines && grid.offsets[cellOf(station, w)] < b) {
                w++;
            }
            if (w == grid.lines) {
                upper[station] = 0;
                lower[station] = 0;
            } else if (w == 0) {
                upper[station] = 0;
                lower[station] = 1;
            } else {
                int below = grid.offsets[cellOf(station, w - 1)];
                lower[station] = grid.offsets[cellOf(station, w)] - below;
                upper[station] = (w - 1) * lower[station] + b - below;
            }
        }

        private int countBreaks(Grid grid, int b, int bound) {
            for (int station = 0; station < grid.stations; station++) {
                measure(grid, station, b);
            }
            int count = 0;
            for (int station = 0; station < grid.stations - 3; station++) {
                if (isBreak(station, bound)) {
                    count++;
                }
            }
            return count;
        }

        private boolean isBreak(int s, int bound) {
            if (!isThere(s) || !isThere(s + 1) || !isThere(s + 2) || !isThere(s + 3)) {
                return false;
            }
            // Over one lower number, 999 to the power of 4 at most, all stays far within a long.
            long firstTwo = lower[s] * lower[s + 1];
            long lastTwo = lower[s + 2] * lower[s + 3];
            long early = (3 * upper[s + 1] * lower[s] - upper[s] * lower[s + 1]) * lastTwo;
            long late = (upper[s + 3] * lower[s + 2] - 3 * upper[s + 2] * lower[s + 3]) * firstTwo;
            return 100 * Math.abs(early + late) > bound * firstTwo * lastTwo;
        }
    }
}
