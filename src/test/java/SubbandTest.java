/** Promises 12 to 14: start, size, coefficient. */
public final class SubbandTest {
    private static final Checks CHECKS = new Checks();
    private static final int LEAST = Integer.MIN_VALUE;
    private static final int GREATEST = Integer.MAX_VALUE;

    public static void main(String[] args) {
        startAndSizeByCounting();
        startOfOneTile();
        sizeOfOneTile();
        startsAndSizesNeedNoLevel();
        startsAndSizesStayWithLevels();
        startAndSizeAreRefusedWithoutTile();
        startAndSizeAreRefusedForTheLevel();
        startAndSizeAreRefusedForTheSubband();
        coefficientsAreTheValuesAtTheirPlaces();
        coefficientsOfTheEdges();
        coordinatesAreExact();
        coefficientsOfLevelsThatAreNotThere();
        coefficientsOfSubbandsThatAreNotThere();
        coefficientsOfPlanesThatAreNotThere();
        coefficientsOfPlacesThatAreNotThere();
        CHECKS.end();
    }

    private static void startAndSizeByCounting() {
        int[] corners = {0, 1, 2, 3, 4, 5, 6, 7, 8, 9, 15, 16, 17, 31, 500, 992, 999, 1000};
        for (int corner : corners) {
            for (int side = 1; side <= 16; side++) {
                Tile tile = Tiles.made(Tiles.empty(corner, 1000 - corner, side, 17 - side));
                for (int d = 1; d <= 4; d++) {
                    for (int o = 0; o < 4; o++) {
                        count(tile, d, o, false, corner, side);
                        count(tile, d, o, true, 1000 - corner, 17 - side);
                    }
                }
            }
        }
    }

    private static void count(Tile tile, int d, int o, boolean down, int begin, int sideLength) {
        int s = 1;
        for (int i = 1; i < d; i++) {
            s *= 2;
        }
        int bit = down ? o / 2 : o % 2;
        int least = -5;
        while (2 * s * least + s * bit < begin) {
            least++;
        }
        int size = 0;
        for (int c = begin; c < begin + sideLength; c++) {
            size += (c - s * bit) % (2 * s) == 0 ? 1 : 0;
        }
        String name = "(" + d + ", " + o + ", " + down + ") from " + begin + ", " + sideLength + " long";
        CHECKS.due("start" + name, tile.start(d, o, down), least);
        CHECKS.due("size" + name, tile.size(d, o, down), size);
    }

    private static void startOfOneTile() {
        Tile tile = Tiles.made(Tiles.empty(3, 5, 4, 3));
        CHECKS.due("start(1, 0, false)", tile.start(1, 0, false), 2);
        CHECKS.due("start(1, 1, false)", tile.start(1, 1, false), 1);
        CHECKS.due("start(1, 2, false)", tile.start(1, 2, false), 2);
        CHECKS.due("start(1, 2, true)", tile.start(1, 2, true), 2);
        CHECKS.due("start(1, 1, true)", tile.start(1, 1, true), 3);
        CHECKS.due("start(4, 3, false)", tile.start(4, 3, false), 0);
        CHECKS.due("start(4, 0, false)", tile.start(4, 0, false), 1);
        Tile corner = Tiles.made(Tiles.empty(0, 0, 1, 1));
        for (int d = 1; d <= 4; d++) {
            for (int o = 0; o < 4; o++) {
                CHECKS.due("start(" + d + ", " + o + ", false) from 0", corner.start(d, o, false), 0);
                CHECKS.due("start(" + d + ", " + o + ", true) from 0", corner.start(d, o, true), 0);
            }
        }
        Tile far = Tiles.made(Tiles.empty(1000, 1000, 1, 1));
        CHECKS.due("start(1, 0, false) from 1000", far.start(1, 0, false), 500);
        CHECKS.due("start(1, 3, true) from 1000", far.start(1, 3, true), 500);
        CHECKS.due("start(4, 0, false) from 1000", far.start(4, 0, false), 63);
        CHECKS.due("start(4, 3, true) from 1000", far.start(4, 3, true), 62);
    }

    private static void sizeOfOneTile() {
        Tile tile = Tiles.made(Tiles.empty(3, 5, 4, 3));
        CHECKS.due("size(1, 2, true)", tile.size(1, 2, true), 2);
        CHECKS.due("size(1, 0, true)", tile.size(1, 0, true), 1);
        CHECKS.due("size(2, 0, false)", tile.size(2, 0, false), 1);
        CHECKS.due("size(2, 0, true) of none", tile.size(2, 0, true), 0);
        CHECKS.due("size(4, 3, true) of none", tile.size(4, 3, true), 0);
        Tile great = Tiles.made(Tiles.empty(0, 0, 16, 16));
        for (int o = 0; o < 4; o++) {
            CHECKS.due("size(1, " + o + ", false) of 16", great.size(1, o, false), 8);
            CHECKS.due("size(4, " + o + ", true) of 16", great.size(4, o, true), 1);
        }
    }

    private static void startsAndSizesNeedNoLevel() {
        Tile tile = Tiles.made(Tiles.empty(7, 8, 9, 10));
        CHECKS.due("levels()", tile.levels(), 0);
        CHECKS.due("start(4, 2, true) without levels", tile.start(4, 2, true), 0);
        CHECKS.due("size(4, 2, true) without levels", tile.size(4, 2, true), 1);
        CHECKS.due("start(4, 0, false) without levels", tile.start(4, 0, false), 1);
        CHECKS.due("size(4, 0, false) without levels", tile.size(4, 0, false), 0);
    }

    private static void startsAndSizesStayWithLevels() {
        Tile tile = Tiles.made(Tiles.empty(7, 8, 9, 10).then(Tile::mix).then(Tiles.forward(0, 1, 2)));
        CHECKS.due("start(4, 2, true) with levels", tile.start(4, 2, true), 0);
        CHECKS.due("size(4, 2, true) with levels", tile.size(4, 2, true), 1);
        CHECKS.due("start(1, 1, false) with levels", tile.start(1, 1, false), 3);
        CHECKS.due("size(1, 1, false) with levels", tile.size(1, 1, false), 5);
    }

    private static void refused(String name, Tile tile, int d, int o) {
        for (boolean down : new boolean[] {false, true}) {
            String call = "(" + d + ", " + o + ", " + down + ") " + name;
            CHECKS.due("start" + call, tile.start(d, o, down), -1);
            CHECKS.due("size" + call, tile.size(d, o, down), -1);
        }
    }

    private static void startAndSizeAreRefusedWithoutTile() {
        Tile none = new Tile();
        none.open(0, 0, 17, 1);
        for (int d = 1; d <= 4; d++) {
            for (int o = 0; o < 4; o++) {
                refused("without a tile", none, d, o);
            }
        }
    }

    private static void startAndSizeAreRefusedForTheLevel() {
        Tile tile = Tiles.made(Tiles.empty(0, 0, 16, 16));
        for (int wrong : new int[] {0, 5, -1, 32, 33, LEAST, GREATEST}) {
            refused("of no level", tile, wrong, 0);
            refused("of no level", tile, wrong, 3);
        }
    }

    private static void startAndSizeAreRefusedForTheSubband() {
        Tile tile = Tiles.made(Tiles.empty(0, 0, 16, 16));
        for (int wrong : new int[] {-1, 4, 5, LEAST, GREATEST}) {
            refused("of no subband", tile, 1, wrong);
            refused("of no subband", tile, 4, wrong);
        }
    }

    private static void coefficientsAreTheValuesAtTheirPlaces() {
        Reading reading = new Reading(Tiles.filled(5, 11, 16, 13).then(Tiles.forward(1, 2, 0, 1)));
        for (int d = 1; d <= 4; d++) {
            for (int o = 0; o < 4; o++) {
                int s = 1 << (d - 1);
                for (int v = -1; v < 14; v++) {
                    for (int u = -1; u < 14; u++) {
                        int want = reading.at(2, 2 * s * u + s * (o % 2), 2 * s * v + s * (o / 2));
                        String call = "coefficient(2, " + d + ", " + o + ", " + u + ", " + v + ")";
                        CHECKS.due(call, reading.coefficient(2, d, o, u, v), want);
                    }
                }
            }
        }
    }

    private static void coefficientsOfTheEdges() {
        Tile tile = Tiles.made(Tiles.row(0, 0, 3, 9, -4, 7, 100).then(Tiles.forward(0)));
        CHECKS.due("coefficient(0, 1, 0, 0, 0)", tile.coefficient(0, 1, 0, 0, 0), 8);
        CHECKS.due("coefficient(0, 1, 0, 2, 0)", tile.coefficient(0, 1, 0, 2, 0), 80);
        CHECKS.due("coefficient(0, 1, 1, 0, 0)", tile.coefficient(0, 1, 1, 0, 0), 10);
        CHECKS.due("coefficient(0, 1, 1, 1, 0)", tile.coefficient(0, 1, 1, 1, 0), -41);
        CHECKS.due("coefficient(0, 1, 1, 2, 0)", tile.coefficient(0, 1, 1, 2, 0), 0);
        Tile far = Tiles.made(Tiles.row(999, 999, 5).then(Tiles.forward(0)));
        CHECKS.due("coefficient(0, 1, 3, 499, 499)", far.coefficient(0, 1, 3, 499, 499), 20);
        CHECKS.due("coefficient(0, 1, 3, 500, 499)", far.coefficient(0, 1, 3, 500, 499), 0);
        CHECKS.due("coefficient(0, 1, 3, 499, 498)", far.coefficient(0, 1, 3, 499, 498), 0);
    }

    /** Whatever 2 * s * u is as an int, no coordinate far off is one of the tile. */
    private static void coordinatesAreExact() {
        Recipe recipe = tile -> {
            tile.open(0, 0, 16, 16);
            for (int x = 0; x < 16; x++) {
                tile.put(0, x, 0, 5000);
                tile.put(0, 0, x, 5000);
                tile.put(0, 8, x, 7000);
                tile.put(0, x, 8, 7000);
            }
        };
        Reading reading = new Reading(recipe.then(Tiles.forward(1, 1, 1, 1)));
        for (int d = 1; d <= 4; d++) {
            int seen = 0;
            for (int o = 0; o < 4; o++) {
                seen += reading.coefficient(0, d, o, 0, 0) != 0 ? 1 : 0;
                for (int power = 32 - d; power < 32; power++) {
                    int far = 1 << power;
                    farOff(reading, d, o, far);
                    farOff(reading, d, o, -far);
                }
            }
            CHECKS.due("level " + d + " has a value that might be mistaken", seen > 0, true);
        }
    }

    private static void farOff(Reading reading, int d, int o, int far) {
        for (int near = 0; near < 2; near++) {
            String name = "coefficient(0, " + d + ", " + o + ", ..) at " + (far + near);
            CHECKS.due(name, reading.coefficient(0, d, o, far + near, 0), 0);
            CHECKS.due(name + " down", reading.coefficient(0, d, o, 0, far + near), 0);
        }
    }

    private static Recipe flat() {
        return tile -> {
            tile.open(0, 0, 16, 16);
            for (int y = 0; y < 16; y++) {
                for (int x = 0; x < 16; x++) {
                    tile.put(0, x, y, 77);
                }
            }
        };
    }

    private static void coefficientsOfLevelsThatAreNotThere() {
        Tile tile = Tiles.made(flat());
        CHECKS.due("coefficient(0, 1, 0, 0, 0) without levels", tile.coefficient(0, 1, 0, 0, 0), 0);
        tile.forward(0);
        CHECKS.due("coefficient(0, 1, 0, 0, 0)", tile.coefficient(0, 1, 0, 0, 0), 77);
        for (int wrong : new int[] {0, 2, 5, -1, 32, 33, LEAST, GREATEST}) {
            CHECKS.due("coefficient(0, " + wrong + ", 0, 0, 0)", tile.coefficient(0, wrong, 0, 0, 0), 0);
        }
        tile.back();
        CHECKS.due("coefficient(0, 1, 0, 0, 0) after back", tile.coefficient(0, 1, 0, 0, 0), 0);
    }

    private static void coefficientsOfSubbandsThatAreNotThere() {
        Tile tile = Tiles.made(flat().then(Tiles.forward(0)));
        for (int wrong : new int[] {-1, 4, 5, -4, LEAST, GREATEST}) {
            CHECKS.due("coefficient(0, 1, " + wrong + ", 1, 1)", tile.coefficient(0, 1, wrong, 1, 1), 0);
        }
    }

    private static void coefficientsOfPlanesThatAreNotThere() {
        Tile tile = Tiles.made(flat().then(Tiles.forward(0)));
        for (int wrong : new int[] {-1, 3, LEAST, GREATEST}) {
            CHECKS.due("coefficient(" + wrong + ", 1, 0, 0, 0)", tile.coefficient(wrong, 1, 0, 0, 0), 0);
        }
    }

    private static void coefficientsOfPlacesThatAreNotThere() {
        Tile tile = Tiles.made(flat().then(Tiles.forward(0)));
        CHECKS.due("coefficient(0, 1, 0, 7, 7)", tile.coefficient(0, 1, 0, 7, 7), 77);
        for (int wrong : new int[] {-1, 8, LEAST, GREATEST}) {
            CHECKS.due("coefficient(0, 1, 0, " + wrong + ", 0)", tile.coefficient(0, 1, 0, wrong, 0), 0);
            CHECKS.due("coefficient(0, 1, 0, 0, " + wrong + ")", tile.coefficient(0, 1, 0, 0, wrong), 0);
        }
    }
}
