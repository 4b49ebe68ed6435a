import java.util.Arrays;

/**
 * A tile of a picture in three planes, taken apart into subbands of whole numbers by lifting steps.
 *
 * <p>All room is made in the constructor and used again: no call makes an object or an array.
 */
public final class LiftedTile {
    private static final int PLANES = 3;
    private static final int MAX_CORNER = 1000;
    private static final int MAX_SIDE = 16;
    private static final int PLANE_AREA = MAX_SIDE * MAX_SIDE;
    private static final int MIN_VALUE = -32768;
    private static final int MAX_VALUE = 32767;
    private static final int MAX_LEVELS = 4;
    private static final int KERNELS = 3;
    private static final int SUBBANDS = 4;
    private static final int MAX_STEP = 32767;
    private static final int NOWHERE = -1;
    private static final int NONE = -1;

    /** Cells outside the tile are 0 in every state, so that loops may go over whole planes. */
    private final int[] cells;
    private final Span columns;
    private final Span rows;
    private final Line line;
    private final int[] kernels;
    private int levelCount;
    private boolean areMixed;

    public LiftedTile() {
        cells = new int[PLANES * PLANE_AREA];
        columns = new Span(1);
        rows = new Span(MAX_SIDE);
        line = new Line();
        kernels = new int[MAX_LEVELS];
        levelCount = 0;
        areMixed = false;
    }

    public boolean open(int left, int top, int width, int height) {
        if (!isCorner(left) || !isCorner(top) || !isSide(width) || !isSide(height)) {
            return false;
        }
        columns.cover(left, width);
        rows.cover(top, height);
        Arrays.fill(cells, 0);
        levelCount = 0;
        areMixed = false;
        return true;
    }

    public boolean put(int plane, int x, int y, int value) {
        int cell = cellOfPlace(plane, x, y);
        if (cell == NOWHERE || value < MIN_VALUE || value > MAX_VALUE) {
            return false;
        }
        if (levelCount > 0 || areMixed) {
            return false;
        }
        cells[cell] = value;
        return true;
    }

    public int at(int plane, int x, int y) {
        return valueIn(cellOfPlace(plane, x, y));
    }

    public boolean mix() {
        if (!hasTile() || levelCount > 0 || areMixed) {
            return false;
        }
        for (int i = 0; i < PLANE_AREA; i++) {
            mixCell(i);
        }
        areMixed = true;
        return true;
    }

    public boolean unmix() {
        if (levelCount > 0 || !areMixed) {
            return false;
        }
        for (int i = 0; i < PLANE_AREA; i++) {
            unmixCell(i);
        }
        areMixed = false;
        return true;
    }

    public boolean mixed() {
        return areMixed;
    }

    public boolean forward(int kernel) {
        if (!hasTile() || kernel < 0 || kernel >= KERNELS || levelCount >= MAX_LEVELS) {
            return false;
        }
        for (int plane = 0; plane < PLANES; plane++) {
            liftLines(plane, rows, columns, kernel, true);
            liftLines(plane, columns, rows, kernel, true);
        }
        kernels[levelCount] = kernel;
        levelCount++;
        return true;
    }

    public boolean back() {
        if (levelCount == 0) {
            return false;
        }
        levelCount--;
        int kernel = kernels[levelCount];
        for (int plane = 0; plane < PLANES; plane++) {
            liftLines(plane, columns, rows, kernel, false);
            liftLines(plane, rows, columns, kernel, false);
        }
        return true;
    }

    public int levels() {
        return levelCount;
    }

    public int kernel(int d) {
        return hasLevel(d) ? kernels[d - 1] : NONE;
    }

    public int start(int d, int o, boolean down) {
        if (!hasTile() || !isLevel(d) || !isSubband(o)) {
            return NONE;
        }
        return down ? rows.firstOf(d, shiftDown(d, o)) : columns.firstOf(d, shiftRight(d, o));
    }

    public int size(int d, int o, boolean down) {
        if (!hasTile() || !isLevel(d) || !isSubband(o)) {
            return NONE;
        }
        return down ? rows.countOf(d, shiftDown(d, o)) : columns.countOf(d, shiftRight(d, o));
    }

    public int coefficient(int plane, int d, int o, int u, int v) {
        if (!hasLevel(d) || !isSubband(o)) {
            return 0;
        }
        return valueIn(cellOfCoordinates(plane, d, o, u, v));
    }

    public int thin(int d, int o, int step) {
        if (!hasLevel(d) || !isSubband(o) || step < 1 || step > MAX_STEP) {
            return NONE;
        }
        // The next level has its own values where this level's subband 0 was.
        if (o == 0 && d != levelCount) {
            return NONE;
        }
        int vanished = 0;
        for (int cell = 0; cell < cells.length; cell++) {
            if (isOfSubband(cell, d, o)) {
                int before = cells[cell];
                cells[cell] = thinned(before, step);
                vanished += before != 0 && cells[cell] == 0 ? 1 : 0;
            }
        }
        return vanished;
    }

    public long weight(int plane, int d, int o) {
        if (!hasLevel(d) || !isSubband(o) || !isPlane(plane)) {
            return NONE;
        }
        long sum = 0;
        int begin = plane * PLANE_AREA;
        for (int cell = begin; cell < begin + PLANE_AREA; cell++) {
            if (isOfSubband(cell, d, o)) {
                sum += amountOf(cells[cell]);
            }
        }
        return sum;
    }

    private static boolean isCorner(int corner) {
        return corner >= 0 && corner <= MAX_CORNER;
    }

    private static boolean isSide(int side) {
        return side >= 1 && side <= MAX_SIDE;
    }

    private static boolean isPlane(int plane) {
        return plane >= 0 && plane < PLANES;
    }

    private static boolean isLevel(int d) {
        return d >= 1 && d <= MAX_LEVELS;
    }

    private static boolean isSubband(int o) {
        return o >= 0 && o < SUBBANDS;
    }

    private boolean hasTile() {
        return columns.count > 0;
    }

    private boolean hasLevel(int d) {
        return d >= 1 && d <= levelCount;
    }

    private static int shiftRight(int d, int o) {
        return (o & 1) << (d - 1);
    }

    private static int shiftDown(int d, int o) {
        return (o >> 1) << (d - 1);
    }

    private int cellOfPlace(int plane, long x, long y) {
        if (!isPlane(plane) || !columns.holds(x) || !rows.holds(y)) {
            return NOWHERE;
        }
        return plane * PLANE_AREA + columns.offsetOf(x) + rows.offsetOf(y);
    }

    private int cellOfCoordinates(int plane, int d, int o, int u, int v) {
        // In long, as a coordinate may be any int and must not wrap round into the tile.
        long x = ((long) u << d) + shiftRight(d, o);
        long y = ((long) v << d) + shiftDown(d, o);
        return cellOfPlace(plane, x, y);
    }

    private int valueIn(int cell) {
        return cell == NOWHERE ? 0 : cells[cell];
    }

    private boolean isOfSubband(int cell, int d, int o) {
        int x = columns.begin + cell % MAX_SIDE;
        int y = rows.begin + cell / MAX_SIDE % MAX_SIDE;
        int mask = (1 << d) - 1;
        return (x & mask) == shiftRight(d, o) && (y & mask) == shiftDown(d, o);
    }

    private void mixCell(int i) {
        int r = cells[i];
        int g = cells[i + PLANE_AREA];
        int b = cells[i + 2 * PLANE_AREA];
        cells[i] = (r + 2 * g + b) >> 2;
        cells[i + PLANE_AREA] = b - g;
        cells[i + 2 * PLANE_AREA] = r - g;
    }

    private void unmixCell(int i) {
        int p = cells[i];
        int q = cells[i + PLANE_AREA];
        int t = cells[i + 2 * PLANE_AREA];
        int g = p - ((q + t) >> 2);
        cells[i] = t + g;
        cells[i + PLANE_AREA] = g;
        cells[i + 2 * PLANE_AREA] = q + g;
    }

    private void liftLines(int plane, Span along, Span across, int kernel, boolean forth) {
        // The levels below the one that is lifted are levelCount, both ways.
        int power = levelCount;
        int length = along.countOf(power, 0);
        if (length == 0) {
            return;
        }
        int first = along.firstOf(power, 0);
        int begin = across.firstOf(power, 0);
        int end = begin + across.countOf(power, 0);
        for (int k = begin; k < end; k++) {
            int cell = plane * PLANE_AREA + along.offsetOf(first << power) + across.offsetOf(k << power);
            line.readFrom(cells, cell, along.stride << power, first, length);
            if (forth) {
                line.liftForth(kernel);
            } else {
                line.liftBack(kernel);
            }
            line.writeTo(cells, cell, along.stride << power);
        }
    }

    private static int thinned(int value, int step) {
        long k = amountOf(value) / step;
        if (k == 0) {
            return 0;
        }
        long amount = k * step + step / 2;
        return (int) (value < 0 ? -amount : amount);
    }

    private static long amountOf(int value) {
        // In long, as the amount of the least int is no int.
        return Math.abs((long) value);
    }

    /** The columns or the rows of the tile; none before a tile is opened. */
    private static final class Span {
        final int stride;
        int begin;
        int count;

        Span(int stride) {
            this.stride = stride;
            this.begin = 0;
            this.count = 0;
        }

        void cover(int newBegin, int newCount) {
            begin = newBegin;
            count = newCount;
        }

        boolean holds(long c) {
            return c >= begin && c < begin + count;
        }

        int offsetOf(long c) {
            return (int) (c - begin) * stride;
        }

        /** The least k for which k * (2 to the power) + shift is not before this span. */
        int firstOf(int power, int shift) {
            return leastFrom(begin, power, shift);
        }

        /** For how many k this span holds k * (2 to the power) + shift. */
        int countOf(int power, int shift) {
            return leastFrom(begin + count, power, shift) - leastFrom(begin, power, shift);
        }

        private static int leastFrom(int bound, int power, int shift) {
            return (bound - shift + (1 << power) - 1) >> power;
        }
    }

    /** A line of the lattice; one serves for all lines, one after the other. */
    private static final class Line {
        /** The shortest line of two and the farthest reach of three need three reflections. */
        private static final int MAX_REFLECTIONS = 8;

        private final int[] values;
        private int a;
        private int b;

        Line() {
            values = new int[MAX_SIDE];
            a = 0;
            b = 0;
        }

        void readFrom(int[] cells, int cell, int stride, int first, int length) {
            a = first;
            b = first + length - 1;
            for (int i = 0; i < length; i++) {
                values[i] = cells[cell + i * stride];
            }
        }

        void writeTo(int[] cells, int cell, int stride) {
            for (int i = 0; i <= b - a; i++) {
                cells[cell + i * stride] = values[i];
            }
        }

        void liftForth(int kernel) {
            if (a == b) {
                values[0] = isOdd(a) ? values[0] * 2 : values[0];
                return;
            }
            for (int n = firstOdd(); n <= b; n += 2) {
                values[n - a] -= prediction(kernel, n);
            }
            for (int n = firstEven(); n <= b; n += 2) {
                values[n - a] += update(kernel, n);
            }
        }

        void liftBack(int kernel) {
            if (a == b) {
                values[0] = isOdd(a) ? values[0] >> 1 : values[0];
                return;
            }
            for (int n = firstEven(); n <= b; n += 2) {
                values[n - a] -= update(kernel, n);
            }
            for (int n = firstOdd(); n <= b; n += 2) {
                values[n - a] += prediction(kernel, n);
            }
        }

        private int prediction(int kernel, int n) {
            switch (kernel) {
                case 0:
                    return neighbours(n, 1) >> 1;
                case 1:
                    return value(n - 1);
                default:
                    return (9 * neighbours(n, 1) - neighbours(n, 3) + 8) >> 4;
            }
        }

        private int update(int kernel, int n) {
            return kernel == 1 ? value(n + 1) >> 1 : (neighbours(n, 1) + 2) >> 2;
        }

        private int neighbours(int n, int reach) {
            return value(n - reach) + value(n + reach);
        }

        private int value(int m) {
            int inside = m;
            for (int i = 0; i < MAX_REFLECTIONS && (inside < a || inside > b); i++) {
                inside = inside < a ? 2 * a - inside : 2 * b - inside;
            }
            return values[inside - a];
        }

        private int firstOdd() {
            return isOdd(a) ? a : a + 1;
        }

        private int firstEven() {
            return isOdd(a) ? a + 1 : a;
        }

        private static boolean isOdd(int n) {
            return (n & 1) == 1;
        }
    }
}
