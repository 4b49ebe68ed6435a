/** Promises 1 to 4: a new object, open, put, at. */
public final class TileTest {
    private static final Checks CHECKS = new Checks();

    public static void main(String[] args) {
        newObjectIsEmpty();
        openAnswersAtItsEdges();
        openPutsAnewWhatWasThere();
        putAnswersAtItsEdges();
        putIsRefusedWithLevelsOrMixed();
        atAnswersZeroOutside();
        CHECKS.end();
    }

    private static void newObjectIsEmpty() {
        LiftedTile tile = new LiftedTile();
        CHECKS.due("new: mixed()", tile.mixed(), false);
        CHECKS.due("new: levels()", tile.levels(), 0);
        CHECKS.due("new: at(0, 0, 0)", tile.at(0, 0, 0), 0);
        CHECKS.due("new: put(0, 0, 0, 0)", tile.put(0, 0, 0, 0), false);
        CHECKS.due("new: mix()", tile.mix(), false);
        CHECKS.due("new: unmix()", tile.unmix(), false);
        CHECKS.due("new: forward(0)", tile.forward(0), false);
        CHECKS.due("new: back()", tile.back(), false);
        CHECKS.due("new: coefficient(0, 1, 0, 0, 0)", tile.coefficient(0, 1, 0, 0, 0), 0);
        for (int d = 0; d <= 5; d++) {
            CHECKS.due("new: kernel(" + d + ")", tile.kernel(d), -1);
            CHECKS.due("new: start(" + d + ", 0, false)", tile.start(d, 0, false), -1);
            CHECKS.due("new: size(" + d + ", 0, true)", tile.size(d, 0, true), -1);
            CHECKS.due("new: thin(" + d + ", 0, 1)", tile.thin(d, 0, 1), -1);
            CHECKS.due("new: weight(0, " + d + ", 0)", tile.weight(0, d, 0), -1);
        }
    }

    private static void open(int left, int top, int width, int height, boolean want) {
        LiftedTile tile = new LiftedTile();
        String call = "open(" + left + ", " + top + ", " + width + ", " + height + ")";
        CHECKS.due(call, tile.open(left, top, width, height), want);
        CHECKS.due(call + " then mix()", tile.mix(), want);
    }

    private static void openAnswersAtItsEdges() {
        open(0, 0, 1, 1, true);
        open(1000, 1000, 16, 16, true);
        open(-1, 0, 1, 1, false);
        open(1001, 0, 1, 1, false);
        open(0, -1, 1, 1, false);
        open(0, 1001, 1, 1, false);
        open(0, 0, 0, 1, false);
        open(0, 0, 17, 1, false);
        open(0, 0, 1, 0, false);
        open(0, 0, 1, 17, false);
        open(Integer.MIN_VALUE, 0, 1, 1, false);
        open(Integer.MAX_VALUE, 0, 1, 1, false);
        open(0, Integer.MIN_VALUE, 1, 1, false);
        open(0, Integer.MAX_VALUE, 1, 1, false);
        open(0, 0, Integer.MIN_VALUE, 1, false);
        open(0, 0, Integer.MAX_VALUE, 1, false);
        open(0, 0, 1, Integer.MIN_VALUE, false);
        open(0, 0, 1, Integer.MAX_VALUE, false);
    }

    private static void openPutsAnewWhatWasThere() {
        LiftedTile fresh = new LiftedTile();
        fresh.open(3, 6, 16, 16);
        String zero = Tiles.state(fresh, 3, 6, 16, 16);

        LiftedTile tile = Tiles.filled(3, 6, 16, 16);
        tile.mix();
        tile.forward(2);
        tile.forward(1);
        CHECKS.due("open like the one there", tile.open(3, 6, 16, 16), true);
        CHECKS.due("state of a tile opened again", Tiles.state(tile, 3, 6, 16, 16), zero);

        LiftedTile moved = Tiles.filled(10, 20, 2, 5);
        CHECKS.due("open elsewhere", moved.open(3, 6, 16, 16), true);
        CHECKS.due("state of a tile opened elsewhere", Tiles.state(moved, 3, 6, 16, 16), zero);

        LiftedTile smaller = Tiles.filled(3, 6, 16, 16);
        smaller.open(3, 6, 4, 4);
        smaller.forward(0);
        CHECKS.due("weight of a smaller tile", smaller.weight(0, 1, 0), 0);
        CHECKS.due("put where the smaller tile has no place", smaller.put(0, 7, 6, 1), false);
        smaller.open(3, 6, 16, 16);
        CHECKS.due("state of a tile made greater", Tiles.state(smaller, 3, 6, 16, 16), zero);
    }

    private static void putAnswersAtItsEdges() {
        LiftedTile tile = new LiftedTile();
        tile.open(5, 9, 3, 2);
        CHECKS.due("put(0, 5, 9, 1)", tile.put(0, 5, 9, 1), true);
        CHECKS.due("put(1, 7, 9, -32768)", tile.put(1, 7, 9, -32768), true);
        CHECKS.due("put(2, 7, 10, 32767)", tile.put(2, 7, 10, 32767), true);
        CHECKS.due("put(0, 5, 10, 4)", tile.put(0, 5, 10, 4), true);
        CHECKS.due("put(0, 5, 10, 5)", tile.put(0, 5, 10, 5), true);

        CHECKS.due("put(-1, 5, 9, 8)", tile.put(-1, 5, 9, 8), false);
        CHECKS.due("put(3, 5, 9, 8)", tile.put(3, 5, 9, 8), false);
        CHECKS.due("put(0, 4, 9, 8)", tile.put(0, 4, 9, 8), false);
        CHECKS.due("put(0, 8, 9, 8)", tile.put(0, 8, 9, 8), false);
        CHECKS.due("put(0, 5, 8, 8)", tile.put(0, 5, 8, 8), false);
        CHECKS.due("put(0, 5, 11, 8)", tile.put(0, 5, 11, 8), false);
        CHECKS.due("put(0, 5, 9, -32769)", tile.put(0, 5, 9, -32769), false);
        CHECKS.due("put(0, 5, 9, 32768)", tile.put(0, 5, 9, 32768), false);
        CHECKS.due("put(0, 5, 9, least)", tile.put(0, 5, 9, Integer.MIN_VALUE), false);
        CHECKS.due("put(0, 5, 9, greatest)", tile.put(0, 5, 9, Integer.MAX_VALUE), false);
        CHECKS.due("put(greatest, ..)", tile.put(Integer.MAX_VALUE, 5, 9, 8), false);
        CHECKS.due("put(0, least, 9, 8)", tile.put(0, Integer.MIN_VALUE, 9, 8), false);
        CHECKS.due("put(0, 5, greatest, 8)", tile.put(0, 5, Integer.MAX_VALUE, 8), false);

        CHECKS.due("plane 0", Tiles.plane(tile, 0, 5, 9, 3, 2), "1 0 0 5 0 0");
        CHECKS.due("plane 1", Tiles.plane(tile, 1, 5, 9, 3, 2), "0 0 -32768 0 0 0");
        CHECKS.due("plane 2", Tiles.plane(tile, 2, 5, 9, 3, 2), "0 0 0 0 0 32767");
    }

    private static void putIsRefusedWithLevelsOrMixed() {
        LiftedTile tile = Tiles.row(0, 0, 4, 4);
        tile.forward(1);
        CHECKS.due("put with a level", tile.put(0, 0, 0, 9), false);
        tile.back();
        CHECKS.due("put without levels again", tile.put(0, 0, 0, 9), true);
        tile.mix();
        CHECKS.due("put into mixed planes", tile.put(0, 0, 0, 1), false);
        tile.unmix();
        CHECKS.due("value after the refused puts", tile.at(0, 0, 0), 9);
        CHECKS.due("put into unmixed planes", tile.put(0, 0, 0, 1), true);
        CHECKS.due("value after the last put", tile.at(0, 0, 0), 1);
    }

    private static void atAnswersZeroOutside() {
        LiftedTile tile = new LiftedTile();
        tile.open(1000, 1000, 16, 16);
        for (int y = 1000; y < 1016; y++) {
            tile.put(1, 1000, y, y);
            tile.put(1, 1015, y, -y);
        }
        CHECKS.due("at(1, 1000, 1000)", tile.at(1, 1000, 1000), 1000);
        CHECKS.due("at(1, 1015, 1015)", tile.at(1, 1015, 1015), -1015);
        CHECKS.due("at(1, 1016, 1015)", tile.at(1, 1016, 1015), 0);
        CHECKS.due("at(1, 1015, 1016)", tile.at(1, 1015, 1016), 0);
        CHECKS.due("at(1, 999, 1001)", tile.at(1, 999, 1001), 0);
        CHECKS.due("at(1, 1000, 999)", tile.at(1, 1000, 999), 0);
        CHECKS.due("at(-1, 1000, 1000)", tile.at(-1, 1000, 1000), 0);
        CHECKS.due("at(3, 1000, 1000)", tile.at(3, 1000, 1000), 0);
        CHECKS.due("at(least, ..)", tile.at(Integer.MIN_VALUE, 1000, 1000), 0);
        CHECKS.due("at(1, least, 1000)", tile.at(1, Integer.MIN_VALUE, 1000), 0);
        CHECKS.due("at(1, 1000, greatest)", tile.at(1, 1000, Integer.MAX_VALUE), 0);
        tile.forward(1);
        // 1001 - 1000 is what the column leaves at (1000, 1001), and the row takes it off its neighbour.
        CHECKS.due("at(1, 1001, 1001) as it is with a level", tile.at(1, 1001, 1001), -1);
    }
}
