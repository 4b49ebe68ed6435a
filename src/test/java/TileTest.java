/** Promises 1 to 4: a new object, open, put, at. */
public final class TileTest {
    private static final Checks CHECKS = new Checks();
    private static final int LEAST = Integer.MIN_VALUE;
    private static final int GREATEST = Integer.MAX_VALUE;

    public static void main(String[] args) {
        newObjectHasNoTile();
        newObjectHasNoPlaces();
        newObjectHasNoLevels();
        newObjectIsNotMixed();
        openTakesItsEdges();
        openIsRefusedPastItsEdges();
        openRefusedKeepsWhatWasThere();
        openLikeTheOneThere();
        openElsewhere();
        openOfLessAndOfMore();
        putTakesItsEdges();
        putIsRefusedWithoutThePlane();
        putIsRefusedWithoutThePlace();
        putIsRefusedForTheValue();
        putIsRefusedWithLevels();
        putIsRefusedInMixedPlanes();
        atAnswersAtTheEdges();
        atAnswersZeroOutside();
        atAnswersAsItIsNow();
        objectsAreApart();
        CHECKS.end();
    }

    private static void newObjectHasNoTile() {
        Tile tile = new Tile();
        CHECKS.due("new: mix()", tile.mix(), false);
        for (int kernel = 0; kernel < 3; kernel++) {
            CHECKS.due("new: forward(" + kernel + ")", tile.forward(kernel), false);
        }
        for (int d = 1; d <= 4; d++) {
            for (int o = 0; o < 4; o++) {
                String name = "(" + d + ", " + o + ", ..)";
                CHECKS.due("new: start" + name, tile.start(d, o, false), -1);
                CHECKS.due("new: start" + name + " down", tile.start(d, o, true), -1);
                CHECKS.due("new: size" + name, tile.size(d, o, false), -1);
                CHECKS.due("new: size" + name + " down", tile.size(d, o, true), -1);
            }
        }
    }

    private static void newObjectHasNoPlaces() {
        Tile tile = new Tile();
        for (int plane = 0; plane < 3; plane++) {
            CHECKS.due("new: at(" + plane + ", 0, 0)", tile.at(plane, 0, 0), 0);
            CHECKS.due("new: put(" + plane + ", 0, 0, 0)", tile.put(plane, 0, 0, 0), false);
            CHECKS.due("new: put(" + plane + ", 15, 15, 7)", tile.put(plane, 15, 15, 7), false);
            CHECKS.due("new: put(" + plane + ", -1, -1, 7)", tile.put(plane, -1, -1, 7), false);
        }
        CHECKS.due("new: at(0, 15, 15)", tile.at(0, 15, 15), 0);
    }

    private static void newObjectHasNoLevels() {
        Tile tile = new Tile();
        CHECKS.due("new: levels()", tile.levels(), 0);
        CHECKS.due("new: back()", tile.back(), false);
        for (int d = 0; d <= 5; d++) {
            CHECKS.due("new: kernel(" + d + ")", tile.kernel(d), -1);
            CHECKS.due("new: coefficient(0, " + d + ", 0, 0, 0)", tile.coefficient(0, d, 0, 0, 0), 0);
            CHECKS.due("new: thin(" + d + ", 0, 1)", tile.thin(d, 0, 1), -1);
            CHECKS.due("new: thin(" + d + ", 3, 1)", tile.thin(d, 3, 1), -1);
            CHECKS.due("new: weight(0, " + d + ", 0)", tile.weight(0, d, 0), -1);
        }
    }

    private static void newObjectIsNotMixed() {
        Tile tile = new Tile();
        CHECKS.due("new: mixed()", tile.mixed(), false);
        CHECKS.due("new: unmix()", tile.unmix(), false);
    }

    private static void open(int left, int top, int width, int height, boolean want) {
        Tile tile = new Tile();
        String call = "open(" + left + ", " + top + ", " + width + ", " + height + ")";
        CHECKS.due(call, tile.open(left, top, width, height), want);
        CHECKS.due(call + " then mix()", tile.mix(), want);
    }

    private static void openTakesItsEdges() {
        open(0, 0, 1, 1, true);
        open(1000, 0, 1, 1, true);
        open(0, 1000, 1, 1, true);
        open(0, 0, 16, 1, true);
        open(0, 0, 1, 16, true);
        open(1000, 1000, 16, 16, true);
        Tile tile = Tiles.made(Tiles.empty(1000, 0, 16, 1));
        CHECKS.due("put(0, 1000, 0, 1)", tile.put(0, 1000, 0, 1), true);
        CHECKS.due("put(0, 1015, 0, 1)", tile.put(0, 1015, 0, 1), true);
        CHECKS.due("put(0, 1016, 0, 1)", tile.put(0, 1016, 0, 1), false);
        CHECKS.due("put(0, 1000, 1, 1)", tile.put(0, 1000, 1, 1), false);
    }

    private static void openIsRefusedPastItsEdges() {
        for (int wrong : new int[] {-1, 1001, LEAST, GREATEST}) {
            open(wrong, 0, 1, 1, false);
            open(0, wrong, 1, 1, false);
        }
        for (int wrong : new int[] {0, 17, -1, LEAST, GREATEST}) {
            open(0, 0, wrong, 1, false);
            open(0, 0, 1, wrong, false);
        }
    }

    private static void openRefusedKeepsWhatWasThere() {
        Recipe recipe = Tiles.filled(4, 2, 7, 6).then(Tile::mix).then(Tiles.forward(1, 2));
        String before = new Reading(recipe).state(4, 2, 7, 6);
        int[][] refused = {{-1, 2, 7, 6}, {4, 1001, 7, 6}, {4, 2, 0, 6}, {4, 2, 7, 17}};
        for (int[] a : refused) {
            Recipe more = recipe.then(tile -> tile.open(a[0], a[1], a[2], a[3]));
            CHECKS.due("state after a refused open", new Reading(more).state(4, 2, 7, 6), before);
        }
    }

    private static void openLikeTheOneThere() {
        String zero = new Reading(Tiles.empty(3, 6, 16, 16)).state(3, 6, 16, 16);
        Recipe again = Tiles.filled(3, 6, 16, 16).then(Tiles.empty(3, 6, 16, 16));
        CHECKS.due("state of a tile opened again", new Reading(again).state(3, 6, 16, 16), zero);
        Recipe apart = Tiles.filled(3, 6, 16, 16).then(Tiles.forward(2, 1)).then(Tiles.empty(3, 6, 16, 16));
        CHECKS.due("state of a tile with levels opened again", new Reading(apart).state(3, 6, 16, 16), zero);
        Recipe mixed = Tiles.filled(3, 6, 16, 16).then(Tile::mix).then(Tiles.empty(3, 6, 16, 16));
        CHECKS.due("state of a mixed tile opened again", new Reading(mixed).state(3, 6, 16, 16), zero);

        Tile tile = Tiles.made(Tiles.row(1, 1, 5).then(Tile::mix).then(Tiles.forward(0)));
        CHECKS.due("open(1, 1, 1, 1)", tile.open(1, 1, 1, 1), true);
        CHECKS.due("at(0, 1, 1) opened again", tile.at(0, 1, 1), 0);
        CHECKS.due("levels() opened again", tile.levels(), 0);
        CHECKS.due("kernel(1) opened again", tile.kernel(1), -1);
        CHECKS.due("mixed() opened again", tile.mixed(), false);
        CHECKS.due("back() opened again", tile.back(), false);
        CHECKS.due("unmix() opened again", tile.unmix(), false);
        CHECKS.due("put(0, 1, 1, 6) opened again", tile.put(0, 1, 1, 6), true);
    }

    private static void openElsewhere() {
        Recipe moved = Tiles.filled(10, 20, 2, 5).then(Tiles.empty(3, 6, 16, 16));
        String zero = new Reading(Tiles.empty(3, 6, 16, 16)).state(3, 6, 16, 16);
        CHECKS.due("state of a tile opened elsewhere", new Reading(moved).state(3, 6, 16, 16), zero);
        Tile tile = Tiles.made(moved);
        CHECKS.due("put where the tile was", tile.put(0, 10, 24, 1), false);
        CHECKS.due("put where the tile is", tile.put(0, 3, 21, 1), true);
    }

    private static void openOfLessAndOfMore() {
        Recipe less = Tiles.filled(3, 6, 16, 16).then(Tiles.empty(3, 6, 4, 4));
        Tile tile = Tiles.made(less.then(Tiles.forward(0)));
        for (int o = 0; o < 4; o++) {
            CHECKS.due("weight(0, 1, " + o + ") of less", tile.weight(0, 1, o), 0);
            CHECKS.due("thin(1, " + o + ", 32767) of less", tile.thin(1, o, 32767), 0);
        }
        CHECKS.due("put where the lesser tile has no place", Tiles.made(less).put(0, 7, 6, 1), false);
        Recipe more = less.then(Tile::mix).then(Tiles.empty(3, 6, 16, 16));
        String zero = new Reading(Tiles.empty(3, 6, 16, 16)).state(3, 6, 16, 16);
        CHECKS.due("state of a tile made greater", new Reading(more).state(3, 6, 16, 16), zero);
    }

    private static void putTakesItsEdges() {
        Tile tile = Tiles.made(Tiles.empty(5, 9, 3, 2));
        CHECKS.due("put(0, 5, 9, 1)", tile.put(0, 5, 9, 1), true);
        CHECKS.due("put(1, 7, 9, -32768)", tile.put(1, 7, 9, -32768), true);
        CHECKS.due("put(2, 7, 10, 32767)", tile.put(2, 7, 10, 32767), true);
        CHECKS.due("put(0, 5, 10, 4)", tile.put(0, 5, 10, 4), true);
        CHECKS.due("put(0, 5, 10, 5) over it", tile.put(0, 5, 10, 5), true);
        Reading reading = new Reading(same -> {
            same.open(5, 9, 3, 2);
            same.put(0, 5, 9, 1);
            same.put(1, 7, 9, -32768);
            same.put(2, 7, 10, 32767);
            same.put(0, 5, 10, 4);
            same.put(0, 5, 10, 5);
        });
        CHECKS.due("plane 0", reading.plane(0, 5, 9, 3, 2), "1 0 0 5 0 0");
        CHECKS.due("plane 1", reading.plane(1, 5, 9, 3, 2), "0 0 -32768 0 0 0");
        CHECKS.due("plane 2", reading.plane(2, 5, 9, 3, 2), "0 0 0 0 0 32767");
    }

    private static void refusedPut(int plane, int x, int y, int value) {
        Recipe recipe = Tiles.filled(5, 9, 3, 2);
        String call = "put(" + plane + ", " + x + ", " + y + ", " + value + ")";
        CHECKS.due(call, Tiles.made(recipe).put(plane, x, y, value), false);
        Reading after = new Reading(recipe.then(tile -> tile.put(plane, x, y, value)));
        CHECKS.due("state after " + call, after.state(5, 9, 3, 2), new Reading(recipe).state(5, 9, 3, 2));
    }

    private static void putIsRefusedWithoutThePlane() {
        for (int wrong : new int[] {-1, 3, LEAST, GREATEST}) {
            refusedPut(wrong, 5, 9, 8);
        }
    }

    private static void putIsRefusedWithoutThePlace() {
        for (int wrong : new int[] {4, 8, 0, -5, LEAST, GREATEST}) {
            refusedPut(0, wrong, 9, 8);
        }
        for (int wrong : new int[] {8, 11, 0, -9, LEAST, GREATEST}) {
            refusedPut(0, 5, wrong, 8);
        }
    }

    private static void putIsRefusedForTheValue() {
        for (int wrong : new int[] {-32769, 32768, 65536, LEAST, GREATEST}) {
            refusedPut(0, 5, 9, wrong);
        }
    }

    private static void putIsRefusedWithLevels() {
        Tile tile = Tiles.made(Tiles.row(7, 7, 4).then(Tiles.forward(1, 0)));
        CHECKS.due("put with two levels", tile.put(0, 7, 7, 9), false);
        tile.back();
        CHECKS.due("put with a level", tile.put(0, 7, 7, 9), false);
        CHECKS.due("value after the refused puts", tile.at(0, 7, 7), 16);
        tile.back();
        CHECKS.due("put without levels again", tile.put(0, 7, 7, 9), true);
        CHECKS.due("value after the last put", tile.at(0, 7, 7), 9);
    }

    private static void putIsRefusedInMixedPlanes() {
        Tile tile = Tiles.made(Tiles.row(0, 0, 4).then(Tile::mix));
        for (int plane = 0; plane < 3; plane++) {
            CHECKS.due("put into mixed planes", tile.put(plane, 0, 0, 9), false);
        }
        tile.unmix();
        CHECKS.due("value after the refused puts", tile.at(0, 0, 0), 4);
        CHECKS.due("put into unmixed planes", tile.put(0, 0, 0, 9), true);
        CHECKS.due("value after the last put", tile.at(0, 0, 0), 9);
    }

    private static Recipe farCorner() {
        return tile -> {
            tile.open(1000, 1000, 16, 16);
            for (int y = 1000; y < 1016; y++) {
                tile.put(1, 1000, y, y);
                tile.put(1, 1015, y, -y);
            }
        };
    }

    private static void atAnswersAtTheEdges() {
        Tile tile = Tiles.made(farCorner());
        CHECKS.due("at(1, 1000, 1000)", tile.at(1, 1000, 1000), 1000);
        CHECKS.due("at(1, 1015, 1000)", tile.at(1, 1015, 1000), -1000);
        CHECKS.due("at(1, 1000, 1015)", tile.at(1, 1000, 1015), 1015);
        CHECKS.due("at(1, 1015, 1015)", tile.at(1, 1015, 1015), -1015);
        CHECKS.due("at(0, 1000, 1000)", tile.at(0, 1000, 1000), 0);
        CHECKS.due("at(2, 1000, 1000)", tile.at(2, 1000, 1000), 0);
    }

    private static void atAnswersZeroOutside() {
        Tile tile = Tiles.made(farCorner());
        for (int wrong : new int[] {999, 1016, 0, -1000, LEAST, GREATEST}) {
            CHECKS.due("at(1, " + wrong + ", 1001)", tile.at(1, wrong, 1001), 0);
            CHECKS.due("at(1, 1000, " + wrong + ")", tile.at(1, 1000, wrong), 0);
        }
        for (int wrong : new int[] {-1, 3, LEAST, GREATEST}) {
            CHECKS.due("at(" + wrong + ", 1000, 1000)", tile.at(wrong, 1000, 1000), 0);
        }
    }

    private static void atAnswersAsItIsNow() {
        Tile tile = Tiles.made(farCorner().then(Tiles.forward(1)));
        // 1001 - 1000 is what the column leaves at (1000, 1001), and the row takes it off its neighbour.
        CHECKS.due("at(1, 1001, 1001) with a level", tile.at(1, 1001, 1001), -1);
        CHECKS.due("at(1, 999, 1001) with a level", tile.at(1, 999, 1001), 0);
        Tile mixed = Tiles.made(Tiles.row(2, 2, 9).then(Tile::mix));
        CHECKS.due("at(0, 2, 2) mixed", mixed.at(0, 2, 2), 2);
        CHECKS.due("at(2, 2, 2) mixed", mixed.at(2, 2, 2), 9);
    }

    private static void objectsAreApart() {
        Tile one = Tiles.made(Tiles.row(1, 1, 5).then(Tile::mix).then(Tiles.forward(2)));
        Tile other = new Tile();
        CHECKS.due("levels() of another object", other.levels(), 0);
        CHECKS.due("mixed() of another object", other.mixed(), false);
        other.open(0, 0, 2, 2);
        other.put(2, 1, 1, 77);
        CHECKS.due("at(2, 1, 1) of the first object", one.at(2, 1, 1), 20);
        CHECKS.due("levels() of the first object", one.levels(), 1);
    }
}
