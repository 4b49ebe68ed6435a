/** Promises 5 to 7: mix, unmix, mixed. */
public final class MixTest {
    private static final Checks CHECKS = new Checks();

    public static void main(String[] args) {
        mixingRoundsDown();
        mixingIsTakenBackAtEveryPlace();
        mixingIsRefused();
        unmixingIsRefused();
        unmixingTakesThinnedValues();
        mixedTilesAreTakenApart();
        CHECKS.end();
    }

    private static LiftedTile of(int r, int g, int b) {
        LiftedTile tile = new LiftedTile();
        tile.open(1, 1, 1, 1);
        tile.put(0, 1, 1, r);
        tile.put(1, 1, 1, g);
        tile.put(2, 1, 1, b);
        return tile;
    }

    private static String planes(LiftedTile tile, int x, int y) {
        return tile.at(0, x, y) + " " + tile.at(1, x, y) + " " + tile.at(2, x, y);
    }

    private static void mixed(int r, int g, int b, String want) {
        LiftedTile tile = of(r, g, b);
        String name = r + " " + g + " " + b;
        CHECKS.due("mixed() before mix", tile.mixed(), false);
        CHECKS.due("mix() of " + name, tile.mix(), true);
        CHECKS.due("mixed() of " + name, tile.mixed(), true);
        CHECKS.due("values of " + name, planes(tile, 1, 1), want);
        CHECKS.due("unmix() of " + name, tile.unmix(), true);
        CHECKS.due("mixed() after unmix", tile.mixed(), false);
        CHECKS.due("values taken back", planes(tile, 1, 1), name);
    }

    private static void mixingRoundsDown() {
        mixed(0, 0, 0, "0 0 0");
        mixed(10, 20, 31, "20 11 -10");
        mixed(-1, 0, 0, "-1 0 -1");
        mixed(-2, -22, 9, "-10 31 20");
        mixed(0, -1, 1, "-1 2 1");
        mixed(32767, 32767, 32767, "32767 0 0");
        mixed(-32768, 32767, -32768, "-1 -65535 -65535");
        mixed(32767, -32768, 32767, "-1 65535 65535");
    }

    private static void mixingIsTakenBackAtEveryPlace() {
        LiftedTile tile = Tiles.filled(999, 3, 16, 16);
        String before = Tiles.state(tile, 999, 3, 16, 16);
        tile.mix();
        for (int y = 3; y < 19; y++) {
            for (int x = 999; x < 1015; x++) {
                int r = Tiles.sample(0, x, y);
                int g = Tiles.sample(1, x, y);
                int b = Tiles.sample(2, x, y);
                String want = ((r + 2 * g + b) >> 2) + " " + (b - g) + " " + (r - g);
                CHECKS.due("mixed values at " + x + " " + y, planes(tile, x, y), want);
            }
        }
        tile.unmix();
        CHECKS.due("state after unmix", Tiles.state(tile, 999, 3, 16, 16), before);
    }

    private static void mixingIsRefused() {
        LiftedTile tile = new LiftedTile();
        CHECKS.due("mix() without a tile", tile.mix(), false);
        CHECKS.due("mixed() without a tile", tile.mixed(), false);
        tile.open(0, 0, 2, 2);
        tile.put(0, 0, 0, 50);
        tile.forward(0);
        CHECKS.due("mix() with a level", tile.mix(), false);
        CHECKS.due("mixed() with a level", tile.mixed(), false);
        tile.back();
        CHECKS.due("mix() without levels", tile.mix(), true);
        String once = planes(tile, 0, 0);
        CHECKS.due("mix() of mixed planes", tile.mix(), false);
        CHECKS.due("mixed() of mixed planes", tile.mixed(), true);
        CHECKS.due("values mixed once", planes(tile, 0, 0), once);
        CHECKS.due("values mixed once", once, "12 0 50");
    }

    private static void unmixingIsRefused() {
        LiftedTile tile = new LiftedTile();
        CHECKS.due("unmix() without a tile", tile.unmix(), false);
        tile.open(0, 0, 2, 2);
        tile.put(2, 1, 1, 4);
        CHECKS.due("unmix() of planes not mixed", tile.unmix(), false);
        CHECKS.due("values not mixed", planes(tile, 1, 1), "0 0 4");
        tile.mix();
        tile.forward(2);
        CHECKS.due("unmix() with a level", tile.unmix(), false);
        CHECKS.due("mixed() with a level", tile.mixed(), true);
        tile.back();
        CHECKS.due("mixed() after back", tile.mixed(), true);
        CHECKS.due("unmix() without levels", tile.unmix(), true);
        CHECKS.due("values unmixed", planes(tile, 1, 1), "0 0 4");
        CHECKS.due("unmix() again", tile.unmix(), false);
    }

    private static void unmixingTakesThinnedValues() {
        LiftedTile tile = new LiftedTile();
        tile.open(0, 0, 1, 1);
        tile.put(0, 0, 0, -7);
        tile.put(1, 0, 0, 4);
        tile.put(2, 0, 0, 2);
        tile.mix();
        CHECKS.due("mixed", planes(tile, 0, 0), "0 -2 -11");
        tile.forward(0);
        CHECKS.due("thin(1, 0, 3)", tile.thin(1, 0, 3), 1);
        CHECKS.due("thinned", planes(tile, 0, 0), "0 0 -10");
        tile.back();
        tile.unmix();
        // g is 0 - ((0 - 10) >> 2), which is 3.
        CHECKS.due("unmixed", planes(tile, 0, 0), "-7 3 3");
    }

    private static void mixedTilesAreTakenApart() {
        LiftedTile tile = Tiles.filled(7, 8, 9, 10);
        String before = Tiles.state(tile, 7, 8, 9, 10);
        tile.mix();
        CHECKS.due("forward(0) of a mixed tile", tile.forward(0), true);
        CHECKS.due("forward(2) of a mixed tile", tile.forward(2), true);
        CHECKS.due("mixed() with levels", tile.mixed(), true);
        tile.back();
        tile.back();
        tile.unmix();
        CHECKS.due("state after all was taken back", Tiles.state(tile, 7, 8, 9, 10), before);
    }
}
