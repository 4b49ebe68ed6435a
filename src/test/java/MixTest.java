/** Promises 5 to 7: mix, unmix, mixed. */
public final class MixTest {
    private static final Checks CHECKS = new Checks();

    public static void main(String[] args) {
        mixingOfWholeQuarters();
        mixingRoundsDown();
        mixingOfTheFarthestValues();
        mixingGoesToEveryPlaceAndIsTakenBack();
        mixingIsRefusedWithoutTile();
        mixingIsRefusedWithLevels();
        mixingIsRefusedTwice();
        unmixingIsRefusedWithoutTile();
        unmixingIsRefusedWithLevels();
        unmixingIsRefusedIfNotMixed();
        unmixingRoundsDown();
        mixedTilesAreTakenApart();
        CHECKS.end();
    }

    private static Recipe of(int r, int g, int b) {
        return tile -> {
            tile.open(1, 1, 1, 1);
            tile.put(0, 1, 1, r);
            tile.put(1, 1, 1, g);
            tile.put(2, 1, 1, b);
        };
    }

    private static String planes(Tile tile, int x, int y) {
        return tile.at(0, x, y) + " " + tile.at(1, x, y) + " " + tile.at(2, x, y);
    }

    private static void mixed(int r, int g, int b, String want) {
        Tile tile = Tiles.made(of(r, g, b));
        String name = r + " " + g + " " + b;
        CHECKS.due("mixed() before mix", tile.mixed(), false);
        CHECKS.due("mix() of " + name, tile.mix(), true);
        CHECKS.due("mixed() of " + name, tile.mixed(), true);
        CHECKS.due("values of " + name, planes(tile, 1, 1), want);
        CHECKS.due("unmix() of " + name, tile.unmix(), true);
        CHECKS.due("mixed() after unmix", tile.mixed(), false);
        CHECKS.due("values taken back", planes(tile, 1, 1), name);
    }

    private static void mixingOfWholeQuarters() {
        mixed(0, 0, 0, "0 0 0");
        mixed(4, 0, 0, "1 0 4");
        mixed(0, 2, 0, "1 -2 -2");
        mixed(0, 0, -4, "-1 -4 0");
    }

    private static void mixingRoundsDown() {
        mixed(3, 0, 0, "0 0 3");
        mixed(10, 20, 31, "20 11 -10");
        mixed(-1, 0, 0, "-1 0 -1");
        mixed(-3, 0, 0, "-1 0 -3");
        mixed(-5, 0, 0, "-2 0 -5");
        mixed(0, -1, 1, "-1 2 1");
        mixed(-2, -22, 9, "-10 31 20");
    }

    private static void mixingOfTheFarthestValues() {
        mixed(32767, 32767, 32767, "32767 0 0");
        mixed(-32768, -32768, -32768, "-32768 0 0");
        mixed(-32768, 32767, -32768, "-1 -65535 -65535");
        mixed(32767, -32768, 32767, "-1 65535 65535");
    }

    private static void mixingGoesToEveryPlaceAndIsTakenBack() {
        Recipe recipe = Tiles.filled(999, 3, 16, 16);
        Reading mixed = new Reading(recipe.then(Tile::mix));
        for (int y = 3; y < 19; y++) {
            for (int x = 999; x < 1015; x++) {
                int r = Tiles.valueFilled(0, x, y, 256);
                int g = Tiles.valueFilled(1, x, y, 256);
                int b = Tiles.valueFilled(2, x, y, 256);
                String place = ", " + x + ", " + y + ") mixed";
                CHECKS.due("at(0" + place, mixed.at(0, x, y), (r + 2 * g + b) >> 2);
                CHECKS.due("at(1" + place, mixed.at(1, x, y), b - g);
                CHECKS.due("at(2" + place, mixed.at(2, x, y), r - g);
            }
        }
        Recipe unmixed = recipe.then(Tile::mix).then(Tile::unmix);
        String before = new Reading(recipe).state(999, 3, 16, 16);
        CHECKS.due("state after unmix", new Reading(unmixed).state(999, 3, 16, 16), before);
    }

    private static void mixingIsRefusedWithoutTile() {
        Tile tile = new Tile();
        CHECKS.due("mix() without a tile", tile.mix(), false);
        CHECKS.due("mixed() without a tile", tile.mixed(), false);
        tile.open(0, 0, 0, 1);
        CHECKS.due("mix() after a refused open", tile.mix(), false);
        tile.open(0, 0, 1, 1);
        CHECKS.due("mixed() of a tile opened after a refused mix", tile.mixed(), false);
        CHECKS.due("mix() of a tile opened after a refused mix", tile.mix(), true);
    }

    private static void mixingIsRefusedWithLevels() {
        Tile tile = Tiles.made(of(50, 1, 1).then(Tiles.forward(0, 0)));
        CHECKS.due("mix() with two levels", tile.mix(), false);
        tile.back();
        CHECKS.due("mix() with a level", tile.mix(), false);
        CHECKS.due("mixed() after the refused mix", tile.mixed(), false);
        CHECKS.due("values after the refused mix", planes(tile, 1, 1), "200 4 4");
        tile.back();
        CHECKS.due("mix() without levels", tile.mix(), true);
        CHECKS.due("values mixed", planes(tile, 1, 1), "13 0 49");
    }

    private static void mixingIsRefusedTwice() {
        Tile tile = Tiles.made(of(50, 0, 0).then(Tile::mix));
        CHECKS.due("values mixed once", planes(tile, 1, 1), "12 0 50");
        CHECKS.due("mix() of mixed planes", tile.mix(), false);
        CHECKS.due("mixed() of mixed planes", tile.mixed(), true);
        CHECKS.due("values mixed once", planes(tile, 1, 1), "12 0 50");
    }

    private static void unmixingIsRefusedWithoutTile() {
        Tile tile = new Tile();
        CHECKS.due("unmix() without a tile", tile.unmix(), false);
        CHECKS.due("mixed() without a tile", tile.mixed(), false);
    }

    private static void unmixingIsRefusedWithLevels() {
        Tile tile = Tiles.made(of(0, 0, 4).then(Tile::mix).then(Tiles.forward(2, 1)));
        CHECKS.due("unmix() with two levels", tile.unmix(), false);
        tile.back();
        CHECKS.due("unmix() with a level", tile.unmix(), false);
        CHECKS.due("mixed() after the refused unmix", tile.mixed(), true);
        CHECKS.due("values after the refused unmix", planes(tile, 1, 1), "4 16 0");
        tile.back();
        CHECKS.due("mixed() after back", tile.mixed(), true);
        CHECKS.due("unmix() without levels", tile.unmix(), true);
        CHECKS.due("values unmixed", planes(tile, 1, 1), "0 0 4");
    }

    private static void unmixingIsRefusedIfNotMixed() {
        Tile tile = Tiles.made(of(7, 8, 4));
        CHECKS.due("unmix() of planes not mixed", tile.unmix(), false);
        CHECKS.due("values not mixed", planes(tile, 1, 1), "7 8 4");
        tile.mix();
        tile.unmix();
        CHECKS.due("unmix() twice", tile.unmix(), false);
        CHECKS.due("values unmixed once", planes(tile, 1, 1), "7 8 4");
    }

    private static void unmixingRoundsDown() {
        Tile tile = new Tile();
        tile.open(0, 0, 1, 1);
        tile.put(0, 0, 0, -7);
        tile.put(1, 0, 0, 4);
        tile.put(2, 0, 0, 2);
        tile.mix();
        CHECKS.due("mixed", planes(tile, 0, 0), "0 -2 -11");
        tile.forward(0);
        CHECKS.due("thin(1, 0, 3)", tile.thin(1, 0, 3), 1);
        CHECKS.due("thinned", planes(tile, 0, 0), "0 0 -10");
        tile.back();
        tile.unmix();
        // g is 0 - ((0 - 10) >> 2), which is 3.
        CHECKS.due("unmixed", planes(tile, 0, 0), "-7 3 3");
    }

    private static void mixedTilesAreTakenApart() {
        Recipe recipe = Tiles.filled(7, 8, 9, 10);
        Tile tile = Tiles.made(recipe.then(Tile::mix));
        CHECKS.due("forward(0) of a mixed tile", tile.forward(0), true);
        CHECKS.due("forward(2) of a mixed tile", tile.forward(2), true);
        CHECKS.due("mixed() with levels", tile.mixed(), true);
        Recipe whole = recipe.then(Tile::mix).then(Tiles.forward(0, 2)).then(Tiles.back(2)).then(Tile::unmix);
        String before = new Reading(recipe).state(7, 8, 9, 10);
        CHECKS.due("state after all was taken back", new Reading(whole).state(7, 8, 9, 10), before);
    }
}
