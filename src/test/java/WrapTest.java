import java.lang.reflect.Field;
import java.util.Arrays;

/**
 * "All sums, differences and products of values below are worked out as int and wrap", and what is exact beside them.
 *
 * <p>No run of 512 calls is known that brings values so far (see FarTest), so these are written where the object holds
 * them, and calls of the face work with them.
 */
public final class WrapTest {
    private static final Checks CHECKS = new Checks();
    private static final int LEAST = Integer.MIN_VALUE;
    private static final int GREATEST = Integer.MAX_VALUE;
    private static final int HALF = 1 << 30;
    private static final int[] FAR = {LEAST, GREATEST, LEAST + 1, HALF, -HALF, HALF - 1, -HALF - 1, GREATEST - 16383,
        LEAST + 16383, 0, 1, -1, 715827883, -715827883, 107374183, -107374183, 1 << 27, 1 << 28};

    public static void main(String[] args) throws ReflectiveOperationException {
        mixingWraps();
        unmixingWraps();
        doublingWraps();
        kernelZeroWraps();
        kernelOneWraps();
        kernelTwoWraps();
        thinningIsExactAndThenWraps();
        weightsAreExact();
        wholeTilesWrap();
        CHECKS.end();
    }

    private static int[] cellsOf(Tile tile) throws ReflectiveOperationException {
        Field field = LiftedTile.class.getDeclaredField("cells");
        field.setAccessible(true);
        return (int[]) field.get(tile.bare());
    }

    /** Where the object holds the value in a column and a row, counted from the tile's corner. */
    private static int cell(int plane, int column, int row) {
        return plane * 256 + row * 16 + column;
    }

    private static Tile place(int left, int top, int r, int g, int b) throws ReflectiveOperationException {
        Tile tile = Tiles.made(Tiles.empty(left, top, 1, 1));
        int[] cells = cellsOf(tile);
        cells[cell(0, 0, 0)] = r;
        cells[cell(1, 0, 0)] = g;
        cells[cell(2, 0, 0)] = b;
        return tile;
    }

    private static Tile row(int left, int... values) throws ReflectiveOperationException {
        Tile tile = Tiles.made(Tiles.empty(left, 0, values.length, 1));
        System.arraycopy(values, 0, cellsOf(tile), 0, values.length);
        return tile;
    }

    private static void due(String name, Tile tile, int left, int... wants) {
        int[] got = new int[wants.length];
        for (int i = 0; i < wants.length; i++) {
            got[i] = tile.at(0, left + i, 0);
        }
        CHECKS.due(name, Arrays.toString(got), Arrays.toString(wants));
    }

    private static void planes(String name, Tile tile, int... wants) {
        int[] got = {tile.at(0, 0, 0), tile.at(1, 0, 0), tile.at(2, 0, 0)};
        CHECKS.due(name, Arrays.toString(got), Arrays.toString(wants));
    }

    private static void mixingWraps() throws ReflectiveOperationException {
        Tile tile = place(0, 0, GREATEST, GREATEST, GREATEST);
        tile.mix();
        // Four times the greatest is -4.
        planes("greatest, mixed", tile, -1, 0, 0);
        tile.unmix();
        planes("greatest, unmixed", tile, -1, -1, -1);
        Tile apart = place(0, 0, LEAST, GREATEST, LEAST);
        apart.mix();
        planes("least, greatest, least, mixed", apart, -1, 1, 1);
        Tile near = place(0, 0, HALF, 0, HALF);
        near.mix();
        planes("half, 0, half, mixed", near, LEAST >> 2, HALF, HALF);
    }

    private static void unmixingWraps() throws ReflectiveOperationException {
        Tile tile = place(0, 0, 0, 0, 0);
        tile.mix();
        int[] cells = cellsOf(tile);
        cells[cell(0, 0, 0)] = GREATEST;
        cells[cell(1, 0, 0)] = HALF;
        cells[cell(2, 0, 0)] = HALF;
        tile.unmix();
        // q + t is the least, so g is the greatest + 2 to the power of 29.
        int g = GREATEST + (1 << 29);
        planes("unmixed", tile, HALF + g, g, HALF + g);
    }

    private static void doublingWraps() throws ReflectiveOperationException {
        Tile tile = row(1, HALF);
        tile.forward(0);
        due("half, doubled", tile, 1, LEAST);
        tile.back();
        due("least >> 1", tile, 1, -HALF);
        Tile least = row(1, LEAST + 1);
        least.forward(1);
        due("least + 1, doubled", least, 1, 2);
    }

    private static void kernelZeroWraps() throws ReflectiveOperationException {
        Tile tile = row(0, GREATEST, 0, GREATEST);
        tile.forward(0);
        // The prediction is -2 >> 1, and the updates are 4 >> 2.
        due("kernel 0", tile, 0, LEAST, 1, LEAST);
        tile.back();
        due("kernel 0, back", tile, 0, GREATEST, 0, GREATEST);
        Tile update = row(0, 0, GREATEST, 0);
        update.forward(0);
        // The updates are (-2 + 2) >> 2.
        due("update of kernel 0", update, 0, 0, GREATEST, 0);
    }

    private static void kernelOneWraps() throws ReflectiveOperationException {
        Tile tile = row(0, 1, LEAST);
        tile.forward(1);
        // The least - 1 is the greatest, and its half is added.
        due("kernel 1", tile, 0, HALF, GREATEST);
        tile.back();
        due("kernel 1, back", tile, 0, 1, LEAST);
    }

    private static void kernelTwoWraps() throws ReflectiveOperationException {
        Tile tile = row(0, 1 << 27, 0);
        tile.forward(2);
        // 16 times 2 to the power of 27, and 8, is the least + 8: the prediction is -2 to the power of 27.
        due("kernel 2", tile, 0, (1 << 27) + (1 << 26), 1 << 27);
        tile.back();
        due("kernel 2, back", tile, 0, 1 << 27, 0);
        Tile below = row(0, (1 << 27) - 1, 0);
        below.forward(2);
        // 8 less than 2 to the power of 31 does not wrap.
        due("kernel 2 just below", below, 0, 1 << 26, 1 - (1 << 27));
    }

    private static void thinned(int value, int step, int want) throws ReflectiveOperationException {
        Tile tile = row(0, value);
        tile.forward(0);
        CHECKS.due("thin(1, 0, " + step + ") of " + value, tile.thin(1, 0, step), 0);
        due("value after it", tile, 0, want);
    }

    private static void thinningIsExactAndThenWraps() throws ReflectiveOperationException {
        thinned(LEAST, 1, LEAST);
        thinned(GREATEST, 1, GREATEST);
        // 65538 * 32767 is 2 to the power of 31, less 2.
        thinned(LEAST, 32767, 2147467267);
        thinned(GREATEST, 32767, -2147467267);
        // 2 to the power of 31 and 1 more, below 0, is the greatest.
        thinned(LEAST, 2, GREATEST);
        thinned(GREATEST, 2, GREATEST);
        thinned(LEAST + 1, 2, LEAST + 1);
    }

    private static void weightsAreExact() throws ReflectiveOperationException {
        Tile tile = row(0, 0, 0, 0, 0, 0);
        tile.forward(0);
        int[] cells = cellsOf(tile);
        cells[0] = LEAST;
        cells[2] = LEAST;
        cells[4] = GREATEST;
        CHECKS.due("weight(0, 1, 0)", tile.weight(0, 1, 0), 6442450943L);
        Tile great = Tiles.made(Tiles.empty(0, 0, 16, 16).then(Tiles.forward(1)));
        Arrays.fill(cellsOf(great), LEAST);
        for (int o = 0; o < 4; o++) {
            CHECKS.due("weight(2, 1, " + o + ")", great.weight(2, 1, o), 64L << 31);
        }
    }

    private static void wholeTilesWrap() throws ReflectiveOperationException {
        for (int run = 0; run < 120; run++) {
            int width = run % 7 + 1;
            int height = run % 11 + 1;
            int left = run % 16;
            int top = run * 3 % 16;
            Twin twin = new Twin(CHECKS, "far values, run " + run + ": ");
            twin.open(left, top, width, height);
            force(twin, left, top, width, height, run);
            if (run % 2 == 0) {
                twin.mix();
            }
            for (int d = 1; d <= 4; d++) {
                twin.forward((run + d * d) % 3);
                twin.weight(run % 3, d, d % 4);
            }
            twin.thin(run % 4 + 1, run % 3 + 1, 32767 - run);
            twin.thin(4, 0, 32767 - run);
            compare(twin, left, top, width, height);
            for (int d = 4; d >= 1; d--) {
                twin.back();
            }
            twin.unmix();
            compare(twin, left, top, width, height);
            CHECKS.due("run " + run + " has wrapped", twin.model.farthest() > GREATEST, true);
        }
    }

    private static void force(Twin twin, int left, int top, int width, int height, int run)
            throws ReflectiveOperationException {
        int[] cells = cellsOf(twin.tile);
        for (int plane = 0; plane < 3; plane++) {
            for (int row = 0; row < height; row++) {
                for (int column = 0; column < width; column++) {
                    int value = FAR[(run + plane * 5 + row * row * 7 + column * 3 + row * column) % FAR.length];
                    cells[cell(plane, column, row)] = value;
                    twin.model.force(plane, left + column, top + row, value);
                }
            }
        }
    }

    private static void compare(Twin twin, int left, int top, int width, int height) {
        for (int plane = 0; plane < 3; plane++) {
            for (int y = top; y < top + height; y++) {
                for (int x = left; x < left + width; x++) {
                    twin.at(plane, x, y);
                }
            }
        }
    }
}
