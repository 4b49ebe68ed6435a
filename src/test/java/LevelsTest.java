/** Promises 8 to 11: forward, back, levels, kernel. */
public final class LevelsTest {
    private static final Checks CHECKS = new Checks();
    private static final int LEAST = Integer.MIN_VALUE;
    private static final int GREATEST = Integer.MAX_VALUE;

    public static void main(String[] args) {
        kernelZero();
        kernelOne();
        kernelTwo();
        shiftsRoundTowardsMinusInfinity();
        indicesAreReflectedOnce();
        indicesAreReflectedAgain();
        loneOddIndexIsDoubled();
        loneEvenIndexStays();
        loneOddIndexIsHalvedBack();
        loneLinesOfDeepLevels();
        columnsComeFirst();
        rowsComeBackFirst();
        latticesAreThinnedOut();
        allPlanesAreTakenApart();
        nothingIsDoneWithoutPlaces();
        nothingIsDoneWithoutPlacesOneWay();
        backIsForwardTakenBack();
        backTakesItsOwnKernel();
        forwardIsRefusedWithoutTile();
        forwardIsRefusedForTheKernel();
        forwardIsRefusedWithFourLevels();
        backIsRefusedWithoutLevels();
        levelsAreCounted();
        kernelsAreKnown();
        CHECKS.end();
    }

    /** A row and a column at an even place across are lifted alike, as a lone even index stays. */
    private static void lifted(int kernel, int first, String want, int... values) {
        String name = "kernel " + kernel + " from " + first;
        Recipe row = Tiles.row(first, 4, values);
        Recipe column = Tiles.column(4, first, values);
        Recipe apart = Tiles.forward(kernel);
        Recipe whole = apart.then(Tiles.back(1));
        int length = values.length;
        String before = new Reading(row).plane(0, first, 4, length, 1);
        CHECKS.due(name + ", row", new Reading(row.then(apart)).plane(0, first, 4, length, 1), want);
        CHECKS.due(name + ", row back", new Reading(row.then(whole)).plane(0, first, 4, length, 1), before);
        CHECKS.due(name + ", column", new Reading(column.then(apart)).plane(0, 4, first, 1, length), want);
        CHECKS.due(name + ", column back", new Reading(column.then(whole)).plane(0, 4, first, 1, length), before);
    }

    private static void kernelZero() {
        lifted(0, 0, "7 -6", 10, 4);
        lifted(0, 1, "6 7", 10, 4);
        lifted(0, 0, "8 10 -12 -41 80", 3, 9, -4, 7, 100);
        lifted(0, 1000, "0 0 0", 0, 0, 0);
        // 7 - 1 and 8 - 2, then 14 >> 2 to each even one.
        lifted(0, 0, "4 6 5 6 6", 1, 7, 2, 8, 3);
        // 1 - 2, 3 - 3, 9 - 4, then 1 >> 2 and 7 >> 2.
        lifted(0, 1, "-1 2 0 5 5", 1, 2, 3, 4, 9);
    }

    private static void kernelOne() {
        lifted(1, 0, "7 4 -1", 5, 9, -3);
        lifted(1, 1, "-4 3 -12", 5, 9, -3);
        lifted(1, 0, "9 -1", 10, 9);
        lifted(1, 1, "1 9", 10, 9);
        lifted(1, 0, "7 -6", 10, 4);
    }

    private static void kernelTwo() {
        lifted(2, 0, "11 16 -12 -47 77", 3, 9, -4, 7, 100);
        // 16 >> 4 is just reached.
        lifted(2, 0, "3 4 2", 1, 5, 0);
        // The predictions are -8 >> 4, 152 >> 4, 152 >> 4, -24 >> 4; that for index 3 needs no reflection.
        lifted(2, 0, "1 1 0 -1 14 -9 -2 2", 0, 0, 0, 8, 16, 0, 0, 0);
        lifted(2, 0, "1 1 -2 -9 12 -9 -2 1 1", 0, 0, 0, 0, 16, 0, 0, 0, 0);
    }

    private static void shiftsRoundTowardsMinusInfinity() {
        // The prediction is -1 >> 1.
        lifted(0, 0, "1 1 0", 0, 0, -1);
        // The update is (-4 + 2) >> 2.
        lifted(0, 0, "-1 -2", 0, -2);
        // The update is -1 >> 1.
        lifted(1, 0, "-1 -1", 0, -1);
        // The prediction is (-9 - 1 * -1 + 8) >> 4, which is 0; with -2 it is -8 >> 4.
        lifted(2, 0, "0 0 -1", 0, 0, -1);
        lifted(2, 0, "1 1 -1", 0, 0, -2);
    }

    private static void indicesAreReflectedOnce() {
        // Index 0 is 2 for the line 1 .. 3, and 4 is 2: 5 - 10 and 20 - 10, then (5 + 2) >> 2.
        lifted(0, 1, "-5 11 10", 5, 10, 20);
        lifted(1, 1, "-5 15 10", 5, 10, 20);
        // Index 3 is 1 for the line 0 .. 2: 20 + (5 >> 1).
        lifted(1, 0, "7 5 22", 5, 10, 20);
        // For the line 0 .. 3: (9 * 192 - 64 + 8) >> 4 for 1, (9 * 64 - 320 + 8) >> 4 for 3.
        lifted(2, 0, "108 -104 2 -16", 160, 0, 32, 0);
        // For the line 1 .. 4: (9 * 320 - 64 + 8) >> 4 for 1, (9 * 192 - 320 + 8) >> 4 for 3.
        lifted(2, 1, "-176 94 -88 -12", 0, 160, 0, 32);
        lifted(2, 1, "-14 7 -22 14 -49 35 -68", 0, 16, 0, 32, 0, 64, 0);
    }

    private static void indicesAreReflectedAgain() {
        // Three reflections: for the line 0 .. 1, index 4 is -2, then 2, then 0.
        lifted(2, 0, "7 -6", 10, 4);
        // For the line 1 .. 2, index -2 is 4, then 0, then 2.
        lifted(2, 1, "6 7", 10, 4);
        // For the line 1 .. 3, index -2 is 4, then 2, and 6 is 0, then 2.
        lifted(2, 1, "16 12 32", 16, 0, 32);
        lifted(2, 1, "-3 6 -1", 4, 7, 6);
        // The columns 8 and 16 have the indices 1 and 2 in level 4.
        Reading odd = new Reading(Tiles.row(7, 0, 0, 10, 0, 0, 0, 0, 0, 0, 0, 4).then(Tiles.forward(1, 1, 1, 2)));
        CHECKS.due("kernel 2 in level 4, from 7", odd.plane(0, 7, 0, 10, 1), "-10 -2 -10 -5 0 -2 0 0 0 2");
    }

    private static void lone(int x, int y, int value, int want) {
        for (int kernel = 0; kernel < 3; kernel++) {
            Tile tile = Tiles.made(Tiles.row(x, y, value).then(Tiles.forward(kernel)));
            String name = "kernel " + kernel + ", lone value at " + x + " " + y;
            CHECKS.due(name, tile.at(0, x, y), want);
            tile.back();
            CHECKS.due(name + ", back", tile.at(0, x, y), value);
        }
    }

    private static void loneOddIndexIsDoubled() {
        lone(7, 4, -3, -6);
        lone(4, 7, -3, -6);
        lone(7, 5, -3, -12);
        lone(999, 999, 32767, 131068);
        lone(1, 1, -32768, -131072);
    }

    private static void loneEvenIndexStays() {
        lone(0, 0, 7, 7);
        lone(6, 4, 32767, 32767);
        lone(1000, 1000, -32768, -32768);
    }

    private static void loneOddIndexIsHalvedBack() {
        Tile tile = Tiles.made(Tiles.row(7, 4, -3).then(Tiles.forward(2)));
        CHECKS.due("thin(1, 1, 5)", tile.thin(1, 1, 5), 0);
        CHECKS.due("lone value thinned", tile.at(0, 7, 4), -7);
        tile.back();
        CHECKS.due("lone value, -7 >> 1", tile.at(0, 7, 4), -4);
        Tile above = Tiles.made(Tiles.row(7, 4, 3).then(Tiles.forward(2)));
        above.thin(1, 1, 5);
        above.back();
        CHECKS.due("lone value, 7 >> 1", above.at(0, 7, 4), 3);
    }

    private static void loneLinesOfDeepLevels() {
        Tile even = Tiles.made(Tiles.row(6, 4, 32767).then(Tiles.forward(1)));
        CHECKS.due("lone value at even, even", even.at(0, 6, 4), 32767);
        even.forward(1);
        CHECKS.due("lone value with the indices 3 and 2 in level 2", even.at(0, 6, 4), 65534);
        even.back();
        CHECKS.due("lone value with the indices 3 and 2, back", even.at(0, 6, 4), 32767);

        Tile deep = Tiles.made(Tiles.row(8, 24, 5).then(Tiles.forward(0, 1, 2)));
        CHECKS.due("lone value even in three levels", deep.at(0, 8, 24), 5);
        deep.forward(0);
        CHECKS.due("lone value odd in level 4", deep.at(0, 8, 24), 20);
        Tile evenest = Tiles.made(Tiles.row(16, 0, 5).then(Tiles.forward(0, 1, 2, 0)));
        CHECKS.due("lone value even in four levels", evenest.at(0, 16, 0), 5);
    }

    private static Recipe oneBelow() {
        return tile -> {
            tile.open(0, 0, 2, 2);
            tile.put(0, 0, 1, 1);
        };
    }

    private static void columnsComeFirst() {
        // The rows first would leave 0 at (1, 0).
        Reading reading = new Reading(oneBelow().then(Tiles.forward(0)));
        CHECKS.due("columns first, then rows", reading.plane(0, 0, 0, 2, 2), "1 -1 1 -1");
    }

    private static void rowsComeBackFirst() {
        Reading reading = new Reading(oneBelow().then(Tiles.forward(0)).then(Tiles.back(1)));
        CHECKS.due("rows back first, then columns", reading.plane(0, 0, 0, 2, 2), "0 0 1 0");
    }

    private static void latticesAreThinnedOut() {
        Recipe row = Tiles.row(2, 4, 0, 0, 8, 0, 0, 0, 4);
        CHECKS.due("level 1", new Reading(row.then(Tiles.forward(1))).plane(0, 2, 4, 7, 1), "0 0 4 -8 0 0 4");
        // Level 2 has no place outside the columns 2, 4, 6, 8 with the indices 1 .. 4.
        Recipe apart = row.then(Tiles.forward(1, 1));
        CHECKS.due("level 2", new Reading(apart).plane(0, 2, 4, 7, 1), "-4 0 2 -8 -4 0 2");
        CHECKS.due("level 0", new Reading(apart.then(Tiles.back(2))).plane(0, 2, 4, 7, 1), "0 0 8 0 0 0 4");
    }

    private static void allPlanesAreTakenApart() {
        Tile tile = new Tile();
        tile.open(3, 3, 1, 1);
        for (int plane = 0; plane < 3; plane++) {
            tile.put(plane, 3, 3, 10 + plane);
        }
        tile.forward(0);
        for (int plane = 0; plane < 3; plane++) {
            CHECKS.due("plane " + plane + " with a level", tile.at(plane, 3, 3), 40 + 4 * plane);
        }
        tile.back();
        for (int plane = 0; plane < 3; plane++) {
            CHECKS.due("plane " + plane + " put together", tile.at(plane, 3, 3), 10 + plane);
        }
    }

    private static void nothingIsDoneWithoutPlaces() {
        Tile tile = Tiles.made(Tiles.row(7, 7, 1).then(Tiles.forward(1)));
        for (int d = 2; d <= 4; d++) {
            CHECKS.due("forward(2) without places", tile.forward(2), true);
            CHECKS.due("levels() without places", tile.levels(), d);
            CHECKS.due("kernel(" + d + ") without places", tile.kernel(d), 2);
            CHECKS.due("value without places", tile.at(0, 7, 7), 4);
        }
        for (int d = 3; d >= 1; d--) {
            CHECKS.due("back() without places", tile.back(), true);
            CHECKS.due("levels() without places", tile.levels(), d);
            CHECKS.due("value without places", tile.at(0, 7, 7), 4);
        }
    }

    /** Lattices that have columns but no rows, or rows but no columns, have no places. */
    private static void nothingIsDoneWithoutPlacesOneWay() {
        Recipe row = Tiles.row(0, 1, 8, 8, 8, 8);
        String once = new Reading(row.then(Tiles.forward(1))).plane(0, 0, 1, 4, 1);
        CHECKS.due("row 1 in level 1", once, "16 0 16 0");
        CHECKS.due("row 1 in level 2", new Reading(row.then(Tiles.forward(1, 1))).plane(0, 0, 1, 4, 1), once);
        Recipe column = Tiles.column(3, 4, 8, 8, 8, 8);
        CHECKS.due("column 3 in level 1", new Reading(column.then(Tiles.forward(1))).plane(0, 3, 4, 1, 4), once);
        CHECKS.due("column 3 in level 3", new Reading(column.then(Tiles.forward(1, 0, 2))).plane(0, 3, 4, 1, 4), once);
        Recipe low = Tiles.row(0, 4, 8, 8, 8, 8).then(Tiles.forward(1, 1, 1));
        CHECKS.due("row 4 in level 3", new Reading(low).plane(0, 0, 4, 4, 1), "16 0 0 0");
        CHECKS.due("row 4 in level 4", new Reading(low.then(Tiles.forward(1))).plane(0, 0, 4, 4, 1), "16 0 0 0");

        Recipe great = Tiles.filled(9, 17, 7, 15);
        String three = new Reading(great.then(Tiles.forward(0, 1, 2))).plane(0, 9, 17, 7, 15);
        String four = new Reading(great.then(Tiles.forward(0, 1, 2, 0))).plane(0, 9, 17, 7, 15);
        CHECKS.due("columns 9 .. 15 in level 4", four, three);
    }

    private static void backIsForwardTakenBack() {
        for (int side = 1; side <= 16; side++) {
            for (int corner = 0; corner < 16; corner++) {
                takeApartAndBack(corner, corner * 5 % 16, side, (side * 7 + corner) % 16 + 1, (side + corner) % 3);
            }
        }
        for (int kernel = 0; kernel < 3; kernel++) {
            takeApartAndBack(0, 0, 1, 1, kernel);
            takeApartAndBack(0, 0, 16, 16, kernel);
            takeApartAndBack(999, 1000, 16, 16, kernel);
            takeApartAndBack(1000, 999, 16, 1, kernel);
            takeApartAndBack(1, 1, 1, 16, kernel);
        }
    }

    private static void takeApartAndBack(int left, int top, int width, int height, int kernel) {
        Recipe recipe = Tiles.filled(left, top, width, height);
        int[] kernels = {kernel, (kernel + 1) % 3, (kernel + 2) % 3, kernel};
        Recipe whole = recipe.then(Tiles.forward(kernels)).then(Tiles.back(4));
        String before = new Reading(recipe).state(left, top, width, height);
        String name = left + " " + top + " " + width + " " + height + ", kernel " + kernel;
        CHECKS.due("taken apart and back: " + name, new Reading(whole).state(left, top, width, height), before);
    }

    private static void backTakesItsOwnKernel() {
        Recipe recipe = Tiles.filled(5, 6, 9, 8);
        for (int last = 0; last < 3; last++) {
            int[] some = {1, 2, 0};
            Recipe three = recipe.then(Tiles.forward(some));
            Recipe four = three.then(Tiles.forward(last)).then(Tiles.back(1));
            String before = new Reading(three).state(5, 6, 9, 8);
            CHECKS.due("back() from kernel " + last, new Reading(four).state(5, 6, 9, 8), before);
        }
    }

    private static void forwardIsRefusedWithoutTile() {
        Tile tile = new Tile();
        CHECKS.due("forward(0) without a tile", tile.forward(0), false);
        tile.open(-1, 0, 1, 1);
        CHECKS.due("forward(0) after a refused open", tile.forward(0), false);
        CHECKS.due("levels() without a tile", tile.levels(), 0);
    }

    private static void forwardIsRefusedForTheKernel() {
        Recipe recipe = Tiles.filled(1, 0, 4, 5).then(Tiles.forward(2));
        String before = new Reading(recipe).state(1, 0, 4, 5);
        for (int kernel : new int[] {-1, 3, LEAST, GREATEST}) {
            CHECKS.due("forward(" + kernel + ")", Tiles.made(recipe).forward(kernel), false);
            Reading after = new Reading(recipe.then(Tiles.forward(kernel)));
            CHECKS.due("state after forward(" + kernel + ")", after.state(1, 0, 4, 5), before);
        }
    }

    private static void forwardIsRefusedWithFourLevels() {
        Recipe recipe = Tiles.filled(0, 0, 16, 3).then(Tiles.forward(1, 1, 1, 1));
        String before = new Reading(recipe).state(0, 0, 16, 3);
        for (int kernel = 0; kernel < 3; kernel++) {
            CHECKS.due("the fifth forward(" + kernel + ")", Tiles.made(recipe).forward(kernel), false);
            Reading after = new Reading(recipe.then(Tiles.forward(kernel)));
            CHECKS.due("state after the fifth", after.state(0, 0, 16, 3), before);
        }
    }

    private static void backIsRefusedWithoutLevels() {
        CHECKS.due("back() without a tile", new Tile().back(), false);
        Recipe recipe = Tiles.filled(1, 1, 3, 5);
        CHECKS.due("back() without levels", Tiles.made(recipe).back(), false);
        String before = new Reading(recipe).state(1, 1, 3, 5);
        CHECKS.due("state after back()", new Reading(recipe.then(Tiles.back(1))).state(1, 1, 3, 5), before);
        Recipe further = recipe.then(Tiles.forward(0, 1)).then(Tiles.back(2));
        CHECKS.due("back() once more than forward", Tiles.made(further).back(), false);
        CHECKS.due("state after it", new Reading(further.then(Tiles.back(1))).state(1, 1, 3, 5), before);
        Tile tile = Tiles.made(recipe.then(Tiles.forward(0)).then(Tiles.empty(1, 1, 3, 5)));
        CHECKS.due("back() after open", tile.back(), false);
    }

    private static void levelsAreCounted() {
        Tile tile = new Tile();
        CHECKS.due("levels() without a tile", tile.levels(), 0);
        tile.open(0, 0, 2, 2);
        CHECKS.due("levels() of a new tile", tile.levels(), 0);
        for (int d = 1; d <= 4; d++) {
            CHECKS.due("forward(1)", tile.forward(1), true);
            CHECKS.due("levels() after forward", tile.levels(), d);
        }
        tile.forward(1);
        CHECKS.due("levels() after the fifth forward", tile.levels(), 4);
        for (int d = 3; d >= 0; d--) {
            CHECKS.due("back()", tile.back(), true);
            CHECKS.due("levels() after back", tile.levels(), d);
        }
        tile.back();
        CHECKS.due("levels() after the fifth back", tile.levels(), 0);
        tile.forward(0);
        tile.open(0, 0, 2, 2);
        CHECKS.due("levels() after open", tile.levels(), 0);
    }

    private static void kernelsAreKnown() {
        Tile tile = Tiles.made(Tiles.row(0, 0, 1, 2, 3));
        CHECKS.due("kernel(1) without levels", tile.kernel(1), -1);
        tile.forward(2);
        tile.forward(0);
        tile.forward(1);
        CHECKS.due("kernel(1)", tile.kernel(1), 2);
        CHECKS.due("kernel(2)", tile.kernel(2), 0);
        CHECKS.due("kernel(3)", tile.kernel(3), 1);
        for (int wrong : new int[] {0, 4, 5, -1, LEAST, GREATEST}) {
            CHECKS.due("kernel(" + wrong + ")", tile.kernel(wrong), -1);
        }
        tile.forward(2);
        CHECKS.due("kernel(4) of four levels", tile.kernel(4), 2);
        CHECKS.due("kernel(5) of four levels", tile.kernel(5), -1);
        tile.back();
        tile.back();
        CHECKS.due("kernel(3) after back", tile.kernel(3), -1);
        CHECKS.due("kernel(2) after back", tile.kernel(2), 0);
        tile.forward(0);
        CHECKS.due("kernel(3) anew", tile.kernel(3), 0);
    }
}
