/** Promises 12 to 14: start, size, coefficient. */
public final class SubbandTest {
    private static final Checks CHECKS = new Checks();

    public static void main(String[] args) {
        startAndSizeByCounting();
        startAndSizeOfOneTile();
        startAndSizeAreRefused();
        coefficientsAreTheValuesAtTheirPlaces();
        coefficientsDoNotWrapIntoTheTile();
        coefficientsAreRefused();
        CHECKS.end();
    }

    private static void startAndSizeByCounting() {
        int[] corners = {0, 1, 2, 3, 4, 5, 6, 7, 8, 9, 15, 16, 17, 31, 500, 992, 999, 1000};
        LiftedTile tile = new LiftedTile();
        for (int corner : corners) {
            for (int side = 1; side <= 16; side++) {
                tile.open(corner, 1000 - corner, side, 17 - side);
                for (int d = 1; d <= 4; d++) {
                    for (int o = 0; o < 4; o++) {
                        count(tile, d, o, false, corner, side);
                        count(tile, d, o, true, 1000 - corner, 17 - side);
                    }
                }
            }
        }
    }

    private static void count(LiftedTile tile, int d, int o, boolean down, int begin, int sideLength) {
        int s = 1;
        for (int i = 1; i < d; i++) {
            s *= 2;
        }
        int bit = down ? o / 2 : o % 2;
        int least = -5;
        while (2 * s * least + s * bit < begin) {
            least++;
        }
        int size = 0;
        for (int c = begin; c < begin + sideLength; c++) {
            size += (c - s * bit) % (2 * s) == 0 ? 1 : 0;
        }
        String name = "(" + d + ", " + o + ", " + down + ") from " + begin + ", " + sideLength + " long";
        CHECKS.due("start" + name, tile.start(d, o, down), least);
        CHECKS.due("size" + name, tile.size(d, o, down), size);
    }

    private static void startAndSizeOfOneTile() {
        LiftedTile tile = new LiftedTile();
        tile.open(3, 5, 4, 3);
        CHECKS.due("start(1, 0, false)", tile.start(1, 0, false), 2);
        CHECKS.due("start(1, 1, false)", tile.start(1, 1, false), 1);
        CHECKS.due("start(1, 2, true)", tile.start(1, 2, true), 2);
        CHECKS.due("start(1, 1, true)", tile.start(1, 1, true), 3);
        CHECKS.due("start(4, 3, false)", tile.start(4, 3, false), 0);
        CHECKS.due("start(4, 0, false)", tile.start(4, 0, false), 1);
        CHECKS.due("size(2, 0, false)", tile.size(2, 0, false), 1);
        CHECKS.due("size(2, 0, true)", tile.size(2, 0, true), 0);
        CHECKS.due("size(4, 3, true)", tile.size(4, 3, true), 0);
        CHECKS.due("size(1, 2, true)", tile.size(1, 2, true), 2);
    }

    private static void startAndSizeAreRefused() {
        LiftedTile none = new LiftedTile();
        LiftedTile tile = new LiftedTile();
        tile.open(0, 0, 16, 16);
        for (boolean down : new boolean[] {false, true}) {
            CHECKS.due("start without a tile", none.start(1, 0, down), -1);
            CHECKS.due("size without a tile", none.size(1, 0, down), -1);
            for (int wrong : new int[] {-1, 4, 5, Integer.MIN_VALUE, Integer.MAX_VALUE}) {
                CHECKS.due("start(1, " + wrong + ")", tile.start(1, wrong, down), -1);
                CHECKS.due("size(1, " + wrong + ")", tile.size(1, wrong, down), -1);
            }
            for (int wrong : new int[] {-1, 0, 5, 32, 33, Integer.MIN_VALUE, Integer.MAX_VALUE}) {
                CHECKS.due("start(" + wrong + ", 0)", tile.start(wrong, 0, down), -1);
                CHECKS.due("size(" + wrong + ", 0)", tile.size(wrong, 0, down), -1);
            }
        }
    }

    private static void coefficientsAreTheValuesAtTheirPlaces() {
        LiftedTile tile = Tiles.filled(5, 11, 16, 13);
        for (int d = 1; d <= 4; d++) {
            tile.forward(d % 3);
        }
        for (int d = 1; d <= 4; d++) {
            for (int o = 0; o < 4; o++) {
                int s = 1 << (d - 1);
                for (int v = -1; v < 14; v++) {
                    for (int u = -1; u < 14; u++) {
                        int want = tile.at(2, 2 * s * u + s * (o % 2), 2 * s * v + s * (o / 2));
                        String call = "coefficient(2, " + d + ", " + o + ", " + u + ", " + v + ")";
                        CHECKS.due(call, tile.coefficient(2, d, o, u, v), want);
                    }
                }
            }
        }
    }

    private static void coefficientsDoNotWrapIntoTheTile() {
        LiftedTile tile = Tiles.filled(0, 0, 16, 16);
        tile.forward(1);
        tile.forward(1);
        CHECKS.due("coefficient(0, 2, 0, 0, 0) is not 0", tile.coefficient(0, 2, 0, 0, 0) != 0, true);
        for (int far : new int[] {1 << 30, 1 << 31, -(1 << 30), Integer.MAX_VALUE, (1 << 30) + 1}) {
            for (int o = 0; o < 4; o++) {
                CHECKS.due("coefficient(0, 2, " + o + ", " + far + ", 0)", tile.coefficient(0, 2, o, far, 0), 0);
                CHECKS.due("coefficient(0, 2, " + o + ", 0, " + far + ")", tile.coefficient(0, 2, o, 0, far), 0);
                CHECKS.due("coefficient(0, 1, " + o + ", " + far + ", 0)", tile.coefficient(0, 1, o, far, 0), 0);
            }
        }
    }

    private static void coefficientsAreRefused() {
        LiftedTile tile = new LiftedTile();
        tile.open(0, 0, 16, 16);
        for (int y = 0; y < 16; y++) {
            for (int x = 0; x < 16; x++) {
                tile.put(0, x, y, 77);
            }
        }
        CHECKS.due("coefficient(0, 1, 0, 0, 0) without levels", tile.coefficient(0, 1, 0, 0, 0), 0);
        tile.forward(0);
        CHECKS.due("coefficient(0, 1, 0, 0, 0)", tile.coefficient(0, 1, 0, 0, 0), 77);
        CHECKS.due("coefficient(0, 2, 0, 0, 0)", tile.coefficient(0, 2, 0, 0, 0), 0);
        CHECKS.due("coefficient(0, 0, 0, 0, 0)", tile.coefficient(0, 0, 0, 0, 0), 0);
        CHECKS.due("coefficient(0, -1, 0, 0, 0)", tile.coefficient(0, -1, 0, 0, 0), 0);
        CHECKS.due("coefficient(0, 33, 0, 0, 0)", tile.coefficient(0, 33, 0, 0, 0), 0);
        CHECKS.due("coefficient(0, 1, -1, 1, 1)", tile.coefficient(0, 1, -1, 1, 1), 0);
        CHECKS.due("coefficient(0, 1, 4, 0, 0)", tile.coefficient(0, 1, 4, 0, 0), 0);
        CHECKS.due("coefficient(-1, 1, 0, 0, 0)", tile.coefficient(-1, 1, 0, 0, 0), 0);
        CHECKS.due("coefficient(3, 1, 0, 0, 0)", tile.coefficient(3, 1, 0, 0, 0), 0);
        CHECKS.due("coefficient(0, 1, 0, 8, 0)", tile.coefficient(0, 1, 0, 8, 0), 0);
        CHECKS.due("coefficient(0, 1, 0, 0, -1)", tile.coefficient(0, 1, 0, 0, -1), 0);
        tile.back();
        CHECKS.due("coefficient(0, 1, 0, 0, 0) after back", tile.coefficient(0, 1, 0, 0, 0), 0);
    }
}
