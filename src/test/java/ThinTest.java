/** Promises 15 and 16: thin, weight. */
public final class ThinTest {
    private static final Checks CHECKS = new Checks();

    public static void main(String[] args) {
        thinningOfOneValue();
        thinningCountsWhatVanished();
        thinningKeepsOtherSubbands();
        thinningIsRefused();
        thinningOfNone();
        weightsAreSumsOfAmounts();
        weightsAreRefused();
        CHECKS.end();
    }

    private static void thinned(int value, int step, int wantValue, int wantVanished) {
        LiftedTile tile = Tiles.row(0, 0, value);
        tile.forward(0);
        String call = "thin(1, 0, " + step + ") of " + value;
        CHECKS.due(call, tile.thin(1, 0, step), wantVanished);
        CHECKS.due("value after " + call, tile.at(0, 0, 0), wantValue);
    }

    private static void thinningOfOneValue() {
        thinned(0, 1, 0, 0);
        thinned(0, 32767, 0, 0);
        thinned(1, 1, 1, 0);
        thinned(-1, 1, -1, 0);
        thinned(-32768, 1, -32768, 0);
        thinned(1, 2, 0, 1);
        thinned(-1, 2, 0, 1);
        thinned(2, 2, 3, 0);
        thinned(-2, 2, -3, 0);
        thinned(3, 2, 3, 0);
        thinned(4, 5, 0, 1);
        thinned(5, 5, 7, 0);
        thinned(9, 5, 7, 0);
        thinned(-9, 5, -7, 0);
        thinned(10, 5, 12, 0);
        thinned(-10, 5, -12, 0);
        thinned(32766, 32767, 0, 1);
        thinned(32767, 32767, 49150, 0);
        thinned(-32767, 32767, -49150, 0);
        thinned(-32768, 32767, -49150, 0);
    }

    private static void thinningCountsWhatVanished() {
        LiftedTile tile = new LiftedTile();
        tile.open(1, 1, 1, 1);
        tile.put(0, 1, 1, 5);
        tile.put(1, 1, 1, -4);
        tile.forward(0);
        CHECKS.due("thin(1, 3, 16)", tile.thin(1, 3, 16), 0);
        CHECKS.due("at(0, 1, 1)", tile.at(0, 1, 1), 24);
        CHECKS.due("at(1, 1, 1)", tile.at(1, 1, 1), -24);
        CHECKS.due("thin(1, 3, 25)", tile.thin(1, 3, 25), 2);
        CHECKS.due("thin(1, 3, 25) again", tile.thin(1, 3, 25), 0);

        LiftedTile flat = new LiftedTile();
        flat.open(0, 0, 16, 16);
        for (int x = 0; x < 16; x++) {
            flat.put(x % 3, x, x, 1);
        }
        flat.forward(1);
        int vanished = 0;
        for (int o = 0; o < 4; o++) {
            int want = count(flat, o);
            vanished += want;
            CHECKS.due("thin(1, " + o + ", 32767)", flat.thin(1, o, 32767), want);
            CHECKS.due("values left in subband " + o, count(flat, o), 0);
        }
        CHECKS.due("some have vanished", vanished > 0, true);
    }

    private static int count(LiftedTile tile, int o) {
        int count = 0;
        for (int plane = 0; plane < 3; plane++) {
            for (int v = 0; v < 8; v++) {
                for (int u = 0; u < 8; u++) {
                    count += tile.coefficient(plane, 1, o, u, v) != 0 ? 1 : 0;
                }
            }
        }
        return count;
    }

    private static void thinningKeepsOtherSubbands() {
        for (int d = 1; d <= 3; d++) {
            for (int o = d < 3 ? 1 : 0; o < 4; o++) {
                LiftedTile before = Tiles.filled(5, 3, 16, 14);
                LiftedTile tile = Tiles.filled(5, 3, 16, 14);
                for (int i = 0; i < 3; i++) {
                    before.forward(2 - i);
                    tile.forward(2 - i);
                }
                tile.thin(d, o, 100);
                compare(before, tile, d, o);
            }
        }
    }

    private static void compare(LiftedTile before, LiftedTile after, int d, int o) {
        int s = 1 << (d - 1);
        for (int plane = 0; plane < 3; plane++) {
            for (int y = 3; y < 17; y++) {
                for (int x = 5; x < 21; x++) {
                    boolean isOf = x % (2 * s) == s * (o % 2) && y % (2 * s) == s * (o / 2);
                    int value = before.at(plane, x, y);
                    int amount = value < 0 ? -value : value;
                    int thinned = amount < 100 ? 0 : amount - amount % 100 + 50;
                    int want = !isOf ? value : value < 0 ? -thinned : thinned;
                    String call = "at(" + plane + ", " + x + ", " + y + ") after thin(" + d + ", " + o + ", 100)";
                    CHECKS.due(call, after.at(plane, x, y), want);
                }
            }
        }
    }

    private static void thinningIsRefused() {
        CHECKS.due("thin without a tile", new LiftedTile().thin(1, 1, 1), -1);
        LiftedTile tile = Tiles.filled(0, 0, 16, 16);
        CHECKS.due("thin without levels", tile.thin(1, 1, 9), -1);
        tile.forward(0);
        tile.forward(0);
        String before = Tiles.state(tile, 0, 0, 16, 16);
        CHECKS.due("thin(0, 1, 9)", tile.thin(0, 1, 9), -1);
        CHECKS.due("thin(3, 1, 9)", tile.thin(3, 1, 9), -1);
        CHECKS.due("thin(-1, 1, 9)", tile.thin(-1, 1, 9), -1);
        CHECKS.due("thin(33, 1, 9)", tile.thin(33, 1, 9), -1);
        CHECKS.due("thin(1, -1, 9)", tile.thin(1, -1, 9), -1);
        CHECKS.due("thin(1, 4, 9)", tile.thin(1, 4, 9), -1);
        CHECKS.due("thin(1, 0, 9)", tile.thin(1, 0, 9), -1);
        CHECKS.due("thin(1, 1, 0)", tile.thin(1, 1, 0), -1);
        CHECKS.due("thin(1, 1, -1)", tile.thin(1, 1, -1), -1);
        CHECKS.due("thin(1, 1, 32768)", tile.thin(1, 1, 32768), -1);
        CHECKS.due("thin(1, 1, least)", tile.thin(1, 1, Integer.MIN_VALUE), -1);
        CHECKS.due("thin(1, 1, greatest)", tile.thin(1, 1, Integer.MAX_VALUE), -1);
        CHECKS.due("state after refused calls", Tiles.state(tile, 0, 0, 16, 16), before);
        CHECKS.due("thin(2, 0, 1)", tile.thin(2, 0, 1), 0);
        tile.back();
        CHECKS.due("thin(1, 0, 32767) of the last level", tile.thin(1, 0, 32767) >= 0, true);
    }

    private static void thinningOfNone() {
        LiftedTile tile = Tiles.row(0, 0, 5, 5);
        tile.forward(0);
        CHECKS.due("thin(1, 2, 32767) without places", tile.thin(1, 2, 32767), 0);
        CHECKS.due("weight(0, 1, 2) without places", tile.weight(0, 1, 2), 0);
        CHECKS.due("values", Tiles.plane(tile, 0, 0, 0, 2, 1), "5 0");
    }

    private static void weightsAreSumsOfAmounts() {
        LiftedTile row = Tiles.row(0, 0, 3, 9, -4, 7, 100);
        row.forward(0);
        CHECKS.due("weight(0, 1, 0)", row.weight(0, 1, 0), 100);
        CHECKS.due("weight(0, 1, 1)", row.weight(0, 1, 1), 51);
        CHECKS.due("weight(1, 1, 1)", row.weight(1, 1, 1), 0);
        row.thin(1, 1, 41);
        CHECKS.due("weight(0, 1, 1) thinned", row.weight(0, 1, 1), 61);

        LiftedTile tile = Tiles.filled(6, 1, 15, 16);
        tile.forward(2);
        tile.forward(0);
        tile.forward(1);
        for (int plane = 0; plane < 3; plane++) {
            for (int d = 1; d <= 3; d++) {
                for (int o = 0; o < 4; o++) {
                    String call = "weight(" + plane + ", " + d + ", " + o + ")";
                    CHECKS.due(call, tile.weight(plane, d, o), sum(tile, plane, d, o));
                }
            }
        }
    }

    private static long sum(LiftedTile tile, int plane, int d, int o) {
        long sum = 0;
        for (int v = 0; v < 12; v++) {
            for (int u = 0; u < 12; u++) {
                sum += Math.abs((long) tile.coefficient(plane, d, o, u, v));
            }
        }
        return sum;
    }

    private static void weightsAreRefused() {
        CHECKS.due("weight without a tile", new LiftedTile().weight(0, 1, 0), -1);
        LiftedTile tile = Tiles.filled(0, 0, 8, 8);
        CHECKS.due("weight without levels", tile.weight(0, 1, 0), -1);
        tile.forward(0);
        CHECKS.due("weight(0, 0, 0)", tile.weight(0, 0, 0), -1);
        CHECKS.due("weight(0, 2, 0)", tile.weight(0, 2, 0), -1);
        CHECKS.due("weight(0, least, 0)", tile.weight(0, Integer.MIN_VALUE, 0), -1);
        CHECKS.due("weight(0, 1, -1)", tile.weight(0, 1, -1), -1);
        CHECKS.due("weight(0, 1, 4)", tile.weight(0, 1, 4), -1);
        CHECKS.due("weight(-1, 1, 0)", tile.weight(-1, 1, 0), -1);
        CHECKS.due("weight(3, 1, 0)", tile.weight(3, 1, 0), -1);
        CHECKS.due("weight(greatest, 1, 0)", tile.weight(Integer.MAX_VALUE, 1, 0), -1);
        tile.back();
        CHECKS.due("weight(0, 1, 0) after back", tile.weight(0, 1, 0), -1);
    }
}
