/** Promises 15 and 16: thin, weight. */
public final class ThinTest {
    private static final Checks CHECKS = new Checks();
    private static final int LEAST = Integer.MIN_VALUE;
    private static final int GREATEST = Integer.MAX_VALUE;

    public static void main(String[] args) {
        amountsBelowTheStepBecomeZero();
        amountsFromTheStepGoToTheMiddle();
        theLeastStepChangesNothing();
        theGreatestStep();
        thinningGoesPastTheStep();
        onlyValuesThatWereNotZeroAreCounted();
        valuesOfAllPlanesAreThinned();
        otherSubbandsStay();
        thinningWithoutPlaces();
        thinningIsRefusedForTheLevel();
        thinningIsRefusedForTheSubband();
        thinningIsRefusedForSubbandZeroBeforeTheLastLevel();
        thinningIsRefusedForTheStep();
        thinningCannotBeTakenBack();
        weightsAreSumsOfAmounts();
        weightsAreAsTheyAreNow();
        weightsOfNone();
        weightsAreRefusedForTheLevel();
        weightsAreRefusedForTheSubband();
        weightsAreRefusedForThePlane();
        CHECKS.end();
    }

    /** A lone value at even, even is subband 0 of level 1 as it was put. */
    private static void thinned(int value, int step, int wantValue, int wantVanished) {
        Tile tile = Tiles.made(Tiles.row(0, 0, value).then(Tiles.forward(0)));
        String call = "thin(1, 0, " + step + ") of " + value;
        CHECKS.due(call, tile.thin(1, 0, step), wantVanished);
        CHECKS.due("value after " + call, tile.at(0, 0, 0), wantValue);
    }

    private static void amountsBelowTheStepBecomeZero() {
        thinned(1, 2, 0, 1);
        thinned(-1, 2, 0, 1);
        thinned(4, 5, 0, 1);
        thinned(-4, 5, 0, 1);
        thinned(32766, 32767, 0, 1);
        thinned(-32766, 32767, 0, 1);
    }

    private static void amountsFromTheStepGoToTheMiddle() {
        thinned(2, 2, 3, 0);
        thinned(-2, 2, -3, 0);
        thinned(3, 2, 3, 0);
        thinned(-3, 2, -3, 0);
        thinned(5, 5, 7, 0);
        thinned(9, 5, 7, 0);
        thinned(-9, 5, -7, 0);
        thinned(10, 5, 12, 0);
        thinned(-10, 5, -12, 0);
    }

    private static void theLeastStepChangesNothing() {
        thinned(0, 1, 0, 0);
        thinned(1, 1, 1, 0);
        thinned(-1, 1, -1, 0);
        thinned(32767, 1, 32767, 0);
        thinned(-32768, 1, -32768, 0);
    }

    private static void theGreatestStep() {
        thinned(0, 32767, 0, 0);
        thinned(32767, 32767, 49150, 0);
        thinned(-32767, 32767, -49150, 0);
        thinned(-32768, 32767, -49150, 0);
    }

    /** Amounts past the greatest step: two grow to the middle, one shrinks to it. */
    private static void thinningGoesPastTheStep() {
        Tile tile = Tiles.made(Tiles.row(0, 0, -32766).then(Tiles.forward(1)));
        int[] steps = {32766, 16383, 32762};
        int[] wants = {-49149, -57340, -49143};
        for (int i = 0; i < 3; i++) {
            CHECKS.due("thin(1, 0, " + steps[i] + ")", tile.thin(1, 0, steps[i]), 0);
            CHECKS.due("value after it", tile.at(0, 0, 0), wants[i]);
        }
    }

    private static void onlyValuesThatWereNotZeroAreCounted() {
        Tile tile = new Tile();
        tile.open(1, 1, 1, 1);
        tile.put(0, 1, 1, 5);
        tile.put(1, 1, 1, -4);
        tile.forward(0);
        CHECKS.due("thin(1, 3, 16)", tile.thin(1, 3, 16), 0);
        CHECKS.due("at(0, 1, 1)", tile.at(0, 1, 1), 24);
        CHECKS.due("at(1, 1, 1)", tile.at(1, 1, 1), -24);
        CHECKS.due("at(2, 1, 1)", tile.at(2, 1, 1), 0);
        CHECKS.due("thin(1, 3, 25)", tile.thin(1, 3, 25), 2);
        CHECKS.due("thin(1, 3, 25) again", tile.thin(1, 3, 25), 0);
    }

    private static Recipe diagonal() {
        return tile -> {
            tile.open(0, 0, 16, 16);
            for (int x = 0; x < 16; x++) {
                tile.put(x % 3, x, x, 1);
            }
            tile.forward(1);
        };
    }

    private static void valuesOfAllPlanesAreThinned() {
        int all = 0;
        for (int i = 0; i < 4; i++) {
            int o = i;
            int before = count(new Reading(diagonal()), o);
            all += before;
            CHECKS.due("thin(1, " + o + ", 32767)", Tiles.made(diagonal()).thin(1, o, 32767), before);
            Recipe thinned = diagonal().then(tile -> tile.thin(1, o, 32767));
            CHECKS.due("values left in subband " + o, count(new Reading(thinned), o), 0);
        }
        CHECKS.due("some have vanished", all > 20, true);
    }

    private static int count(Reading reading, int o) {
        int count = 0;
        for (int plane = 0; plane < 3; plane++) {
            for (int v = 0; v < 8; v++) {
                for (int u = 0; u < 8; u++) {
                    count += reading.coefficient(plane, 1, o, u, v) != 0 ? 1 : 0;
                }
            }
        }
        return count;
    }

    private static void otherSubbandsStay() {
        Recipe recipe = Tiles.filled(5, 3, 16, 14).then(Tiles.forward(2, 1, 0));
        for (int d = 1; d <= 3; d++) {
            for (int o = d < 3 ? 1 : 0; o < 4; o++) {
                compare(recipe, d, o);
            }
        }
    }

    private static void compare(Recipe recipe, int d, int o) {
        Reading before = new Reading(recipe);
        Reading after = new Reading(recipe.then(tile -> tile.thin(d, o, 100)));
        int s = 1 << (d - 1);
        for (int plane = 0; plane < 3; plane++) {
            for (int y = 3; y < 17; y++) {
                for (int x = 5; x < 21; x++) {
                    boolean isOf = x % (2 * s) == s * (o % 2) && y % (2 * s) == s * (o / 2);
                    int value = before.at(plane, x, y);
                    int amount = value < 0 ? -value : value;
                    int thinned = amount < 100 ? 0 : amount - amount % 100 + 50;
                    int want = !isOf ? value : value < 0 ? -thinned : thinned;
                    String call = "at(" + plane + ", " + x + ", " + y + ") after thin(" + d + ", " + o + ", 100)";
                    CHECKS.due(call, after.at(plane, x, y), want);
                }
            }
        }
    }

    private static void thinningWithoutPlaces() {
        Recipe recipe = Tiles.row(0, 0, 5, 5).then(Tiles.forward(0));
        CHECKS.due("thin(1, 2, 32767) without places", Tiles.made(recipe).thin(1, 2, 32767), 0);
        Reading after = new Reading(recipe.then(tile -> tile.thin(1, 2, 32767)));
        CHECKS.due("values", after.plane(0, 0, 0, 2, 1), "5 0");
        Tile deep = Tiles.made(Tiles.row(7, 7, 5).then(Tiles.forward(0, 0, 0, 0)));
        for (int o = 0; o < 4; o++) {
            CHECKS.due("thin(4, " + o + ", 1) without places", deep.thin(4, o, 1), 0);
        }
        CHECKS.due("value", deep.at(0, 7, 7), 20);
    }

    private static void refusedThin(Recipe recipe, int d, int o, int step) {
        String call = "thin(" + d + ", " + o + ", " + step + ")";
        CHECKS.due(call, Tiles.made(recipe).thin(d, o, step), -1);
        Reading after = new Reading(recipe.then(tile -> tile.thin(d, o, step)));
        CHECKS.due("state after " + call, after.state(2, 0, 6, 5), new Reading(recipe).state(2, 0, 6, 5));
    }

    private static void thinningIsRefusedForTheLevel() {
        CHECKS.due("thin(1, 1, 1) without a tile", new Tile().thin(1, 1, 1), -1);
        refusedThin(Tiles.filled(2, 0, 6, 5), 1, 1, 9);
        Recipe recipe = Tiles.filled(2, 0, 6, 5).then(Tiles.forward(0, 0));
        for (int wrong : new int[] {0, 3, 4, 5, -1, 32, 33, LEAST, GREATEST}) {
            refusedThin(recipe, wrong, 1, 9);
        }
        refusedThin(recipe.then(Tiles.back(1)), 2, 1, 9);
    }

    private static void thinningIsRefusedForTheSubband() {
        Recipe recipe = Tiles.filled(2, 0, 6, 5).then(Tiles.forward(0, 1));
        for (int wrong : new int[] {-1, 4, 5, -4, LEAST, GREATEST}) {
            refusedThin(recipe, 1, wrong, 9);
            refusedThin(recipe, 2, wrong, 9);
        }
    }

    private static void thinningIsRefusedForSubbandZeroBeforeTheLastLevel() {
        Recipe recipe = Tiles.filled(2, 0, 6, 5).then(Tiles.forward(0, 1, 2));
        refusedThin(recipe, 1, 0, 9);
        refusedThin(recipe, 2, 0, 9);
        CHECKS.due("thin(3, 0, 1) of the last level", Tiles.made(recipe).thin(3, 0, 1), 0);
        CHECKS.due("thin(2, 0, 1) after back", Tiles.made(recipe.then(Tiles.back(1))).thin(2, 0, 1), 0);
        CHECKS.due("thin(1, 3, 1) before the last level", Tiles.made(recipe).thin(1, 3, 1), 0);
        CHECKS.due("thin(2, 1, 1) before the last level", Tiles.made(recipe).thin(2, 1, 1), 0);
    }

    private static void thinningIsRefusedForTheStep() {
        Recipe recipe = Tiles.filled(2, 0, 6, 5).then(Tiles.forward(2));
        for (int wrong : new int[] {0, -1, 32768, 65537, LEAST, GREATEST}) {
            refusedThin(recipe, 1, 1, wrong);
        }
    }

    private static void thinningCannotBeTakenBack() {
        Recipe recipe = Tiles.row(0, 0, 10, 4).then(Tiles.forward(0));
        CHECKS.due("values", new Reading(recipe).plane(0, 0, 0, 2, 1), "7 -6");
        Recipe thinned = recipe.then(tile -> tile.thin(1, 1, 5)).then(Tiles.back(1));
        // -6 becomes -7: the update taken off is (-14 + 2) >> 2, and 10 is added to -7.
        CHECKS.due("values put together", new Reading(thinned).plane(0, 0, 0, 2, 1), "10 3");
    }

    private static void weightsAreSumsOfAmounts() {
        Tile row = Tiles.made(Tiles.row(0, 0, 3, 9, -4, 7, 100).then(Tiles.forward(0)));
        CHECKS.due("weight(0, 1, 0)", row.weight(0, 1, 0), 100);
        CHECKS.due("weight(0, 1, 1)", row.weight(0, 1, 1), 51);
        CHECKS.due("weight(1, 1, 1)", row.weight(1, 1, 1), 0);

        Reading reading = new Reading(Tiles.filled(6, 1, 15, 16).then(Tiles.forward(2, 0, 1)));
        for (int i = 0; i < 36; i++) {
            int plane = i / 12;
            int d = i / 4 % 3 + 1;
            int o = i % 4;
            String call = "weight(" + plane + ", " + d + ", " + o + ")";
            CHECKS.due(call, reading.ask(tile -> tile.weight(plane, d, o)), sum(reading, plane, d, o));
        }
    }

    private static long sum(Reading reading, int plane, int d, int o) {
        long sum = 0;
        for (int v = 0; v < 12; v++) {
            for (int u = 0; u < 12; u++) {
                sum += Math.abs((long) reading.coefficient(plane, d, o, u, v));
            }
        }
        return sum;
    }

    private static void weightsAreAsTheyAreNow() {
        Tile row = Tiles.made(Tiles.row(0, 0, 3, 9, -4, 7, 100).then(Tiles.forward(0)));
        row.thin(1, 1, 41);
        CHECKS.due("weight(0, 1, 1) thinned", row.weight(0, 1, 1), 61);
        CHECKS.due("weight(0, 1, 0) beside it", row.weight(0, 1, 0), 100);
        row.forward(1);
        // 8, -12, 80 are taken apart: -12 - 8, then 8 - 10 and 80 - 10.
        CHECKS.due("weight(0, 1, 0) where level 2 is", row.weight(0, 1, 0), 92);
        CHECKS.due("weight(0, 2, 0)", row.weight(0, 2, 0), 72);
        CHECKS.due("weight(0, 2, 1)", row.weight(0, 2, 1), 20);
    }

    private static void weightsOfNone() {
        Tile tile = Tiles.made(Tiles.row(0, 0, 5, 5).then(Tiles.forward(0, 0)));
        CHECKS.due("weight(0, 1, 2) without places", tile.weight(0, 1, 2), 0);
        CHECKS.due("weight(0, 2, 1) without places", tile.weight(0, 2, 1), 0);
        CHECKS.due("weight(0, 2, 3) without places", tile.weight(0, 2, 3), 0);
        CHECKS.due("weight(0, 2, 0)", tile.weight(0, 2, 0), 5);
    }

    private static void weightsAreRefusedForTheLevel() {
        CHECKS.due("weight(0, 1, 0) without a tile", new Tile().weight(0, 1, 0), -1);
        Tile tile = Tiles.made(Tiles.filled(0, 0, 8, 8));
        CHECKS.due("weight(0, 1, 0) without levels", tile.weight(0, 1, 0), -1);
        tile.forward(0);
        for (int wrong : new int[] {0, 2, 5, -1, 32, 33, LEAST, GREATEST}) {
            CHECKS.due("weight(0, " + wrong + ", 0)", tile.weight(0, wrong, 0), -1);
        }
        tile.back();
        CHECKS.due("weight(0, 1, 0) after back", tile.weight(0, 1, 0), -1);
    }

    private static void weightsAreRefusedForTheSubband() {
        Tile tile = Tiles.made(Tiles.filled(0, 0, 8, 8).then(Tiles.forward(0)));
        for (int wrong : new int[] {-1, 4, 5, LEAST, GREATEST}) {
            CHECKS.due("weight(0, 1, " + wrong + ")", tile.weight(0, 1, wrong), -1);
        }
    }

    private static void weightsAreRefusedForThePlane() {
        Tile tile = Tiles.made(Tiles.filled(0, 0, 8, 8).then(Tiles.forward(0)));
        for (int wrong : new int[] {-1, 3, LEAST, GREATEST}) {
            CHECKS.due("weight(" + wrong + ", 1, 0)", tile.weight(wrong, 1, 0), -1);
        }
    }
}
