/** Recipes for tiles. */
final class Tiles {
    /** So that a filled tile leaves calls for what a test does with it. */
    private static final int MAX_PUTS = 400;

    private Tiles() {
    }

    static Recipe empty(int left, int top, int width, int height) {
        return tile -> tile.open(left, top, width, height);
    }

    /** A tile of one row with these values in plane 0. */
    static Recipe row(int left, int top, int... values) {
        return tile -> {
            tile.open(left, top, values.length, 1);
            for (int i = 0; i < values.length; i++) {
                tile.put(0, left + i, top, values[i]);
            }
        };
    }

    /** A tile of one column with these values in plane 0. */
    static Recipe column(int left, int top, int... values) {
        return tile -> {
            tile.open(left, top, 1, values.length);
            for (int i = 0; i < values.length; i++) {
                tile.put(0, left, top + i, values[i]);
            }
        };
    }

    /** A tile with the samples; in a great tile, some places keep their 0. */
    static Recipe filled(int left, int top, int width, int height) {
        return tile -> {
            tile.open(left, top, width, height);
            for (int plane = 0; plane < 3; plane++) {
                for (int y = top; y < top + height; y++) {
                    for (int x = left; x < left + width; x++) {
                        if (isFilled(plane, x, y, width * height)) {
                            tile.put(plane, x, y, sample(plane, x, y));
                        }
                    }
                }
            }
        };
    }

    static Recipe forward(int... kernels) {
        return tile -> {
            for (int kernel : kernels) {
                tile.forward(kernel);
            }
        };
    }

    static Recipe back(int levels) {
        return tile -> {
            for (int i = 0; i < levels; i++) {
                tile.back();
            }
        };
    }

    static Tile made(Recipe recipe) {
        Tile tile = new Tile();
        recipe.make(tile);
        return tile;
    }

    /** The value at a place of a filled tile with so many places. */
    static int valueFilled(int plane, int x, int y, int places) {
        return isFilled(plane, x, y, places) ? sample(plane, x, y) : 0;
    }

    private static boolean isFilled(int plane, int x, int y, int places) {
        return (x + y + plane) % 2 == 0 || 3 * places <= MAX_PUTS;
    }

    /** Values of many sizes and both signs, other ones in each plane. */
    private static int sample(int plane, int x, int y) {
        int mess = (plane + 1) * 7919 + x * 104729 + y * 1299709 + x * y * 31;
        return (mess & 3) == 0 ? Math.floorMod(mess, 65536) - 32768 : Math.floorMod(mess, 201) - 100;
    }
}
