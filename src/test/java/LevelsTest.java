/** Promises 8 to 11: forward, back, levels, kernel. */
public final class LevelsTest {
    private static final Checks CHECKS = new Checks();

    public static void main(String[] args) {
        kernelZero();
        kernelOne();
        kernelTwo();
        lonePlaces();
        columnsComeFirst();
        latticesAreThinnedOut();
        levelsWithoutPlaces();
        backIsForwardTakenBack();
        forwardIsRefused();
        backIsRefused();
        kernelsAreKnown();
        CHECKS.end();
    }

    /** A row and a column at an even place across are lifted alike, as a lone even index stays. */
    private static void lifted(int kernel, int first, String want, int... values) {
        String name = "kernel " + kernel + " from " + first;
        LiftedTile row = Tiles.row(first, 4, values);
        String before = Tiles.plane(row, 0, first, 4, values.length, 1);
        CHECKS.due(name + ", row: forward", row.forward(kernel), true);
        CHECKS.due(name + ", row", Tiles.plane(row, 0, first, 4, values.length, 1), want);
        CHECKS.due(name + ", row: back", row.back(), true);
        CHECKS.due(name + ", row taken back", Tiles.plane(row, 0, first, 4, values.length, 1), before);

        LiftedTile column = Tiles.column(4, first, values);
        CHECKS.due(name + ", column: forward", column.forward(kernel), true);
        CHECKS.due(name + ", column", Tiles.plane(column, 0, 4, first, 1, values.length), want);
        CHECKS.due(name + ", column: back", column.back(), true);
        CHECKS.due(name + ", column taken back", Tiles.plane(column, 0, 4, first, 1, values.length), before);
    }

    private static void kernelZero() {
        lifted(0, 0, "7 -6", 10, 4);
        lifted(0, 1, "6 7", 10, 4);
        lifted(0, 0, "8 10 -12 -41 80", 3, 9, -4, 7, 100);
        lifted(0, 1000, "0 0 0", 0, 0, 0);
        // 7 - 1 and 8 - 2, then 14 >> 2 to each even one.
        lifted(0, 0, "4 6 5 6 6", 1, 7, 2, 8, 3);
        // 1 - 2, 3 - 3, 9 - 4, then 1 >> 2 and 7 >> 2.
        lifted(0, 1, "-1 2 0 5 5", 1, 2, 3, 4, 9);
    }

    private static void kernelOne() {
        lifted(1, 0, "7 4 -1", 5, 9, -3);
        lifted(1, 1, "-4 3 -12", 5, 9, -3);
        lifted(1, 0, "9 -1", 10, 9);
        lifted(1, 1, "1 9", 10, 9);
        lifted(1, 0, "7 -6", 10, 4);
    }

    private static void kernelTwo() {
        lifted(2, 0, "11 16 -12 -47 77", 3, 9, -4, 7, 100);
        // The farthest reach from the shortest line: three reflections.
        lifted(2, 1, "6 7", 10, 4);
        lifted(2, 0, "7 -6", 10, 4);
        // 16 >> 4 is just reached.
        lifted(2, 0, "3 4 2", 1, 5, 0);
        // The predictions are -8 >> 4, 152 >> 4, 152 >> 4, -24 >> 4; that for index 3 needs no reflection.
        lifted(2, 0, "1 1 0 -1 14 -9 -2 2", 0, 0, 0, 8, 16, 0, 0, 0);
    }

    private static void lonePlaces() {
        LiftedTile odd = Tiles.row(7, 5, -3);
        odd.forward(0);
        CHECKS.due("lone value at odd, odd", odd.at(0, 7, 5), -12);
        odd.back();
        CHECKS.due("lone value at odd, odd, back", odd.at(0, 7, 5), -3);

        LiftedTile half = Tiles.row(7, 4, -3);
        half.forward(2);
        CHECKS.due("lone value at odd, even", half.at(0, 7, 4), -6);
        CHECKS.due("thin(1, 1, 5)", half.thin(1, 1, 5), 0);
        CHECKS.due("lone value thinned", half.at(0, 7, 4), -7);
        half.back();
        CHECKS.due("lone value rounded towards minus infinity", half.at(0, 7, 4), -4);

        LiftedTile even = Tiles.row(6, 4, 32767);
        even.forward(1);
        CHECKS.due("lone value at even, even", even.at(0, 6, 4), 32767);
        even.forward(1);
        CHECKS.due("lone value with the indices 3 and 2 in level 2", even.at(0, 6, 4), 65534);

        LiftedTile deep = Tiles.row(8, 24, 5);
        deep.forward(0);
        deep.forward(1);
        deep.forward(2);
        CHECKS.due("lone value even in three levels", deep.at(0, 8, 24), 5);
        deep.forward(0);
        CHECKS.due("lone value odd in level 4", deep.at(0, 8, 24), 20);
    }

    private static void columnsComeFirst() {
        LiftedTile tile = new LiftedTile();
        tile.open(0, 0, 2, 2);
        tile.put(0, 0, 1, 1);
        tile.forward(0);
        // The rows first would leave 0 at (1, 0).
        CHECKS.due("columns first, then rows", Tiles.plane(tile, 0, 0, 0, 2, 2), "1 -1 1 -1");
        tile.back();
        CHECKS.due("rows back first, then columns", Tiles.plane(tile, 0, 0, 0, 2, 2), "0 0 1 0");
    }

    private static void latticesAreThinnedOut() {
        LiftedTile tile = Tiles.row(2, 4, 0, 0, 8, 0, 0, 0, 4);
        tile.forward(1);
        CHECKS.due("level 1", Tiles.plane(tile, 0, 2, 4, 7, 1), "0 0 4 -8 0 0 4");
        tile.forward(1);
        // Level 2 has no place outside the columns 2, 4, 6, 8 with the indices 1 .. 4.
        CHECKS.due("level 2", Tiles.plane(tile, 0, 2, 4, 7, 1), "-4 0 2 -8 -4 0 2");
        tile.back();
        tile.back();
        CHECKS.due("level 0", Tiles.plane(tile, 0, 2, 4, 7, 1), "0 0 8 0 0 0 4");
    }

    private static void levelsWithoutPlaces() {
        LiftedTile tile = Tiles.filled(9, 17, 7, 15);
        String[] states = new String[5];
        for (int d = 0; d < 4; d++) {
            states[d] = Tiles.state(tile, 9, 17, 7, 15);
            CHECKS.due("forward to level " + (d + 1), tile.forward(d % 3), true);
            CHECKS.due("levels()", tile.levels(), d + 1);
        }
        CHECKS.due("size(4, 0, false)", tile.size(4, 0, false), 0);
        for (int d = 3; d >= 0; d--) {
            CHECKS.due("back to level " + d, tile.back(), true);
            CHECKS.due("state at level " + d, Tiles.state(tile, 9, 17, 7, 15), states[d]);
        }

        LiftedTile lone = Tiles.row(7, 7, 1);
        lone.forward(1);
        for (int d = 2; d <= 4; d++) {
            CHECKS.due("forward without places", lone.forward(1), true);
            CHECKS.due("value without places", lone.at(0, 7, 7), 4);
        }
        CHECKS.due("levels() without places", lone.levels(), 4);
    }

    private static void backIsForwardTakenBack() {
        for (int side = 1; side <= 16; side++) {
            for (int corner = 0; corner < 16; corner++) {
                for (int kernel = 0; kernel < 3; kernel++) {
                    takeApartAndBack(corner, corner * 5 % 16, side, (side * 7 + corner) % 16 + 1, kernel);
                }
            }
        }
        takeApartAndBack(1000, 1000, 16, 16, 0);
        takeApartAndBack(1000, 999, 16, 16, 2);
    }

    private static void takeApartAndBack(int left, int top, int width, int height, int kernel) {
        LiftedTile tile = Tiles.filled(left, top, width, height);
        String before = Tiles.state(tile, left, top, width, height);
        for (int d = 0; d < 4; d++) {
            tile.forward((kernel + d) % 3);
        }
        for (int d = 0; d < 4; d++) {
            tile.back();
        }
        String name = left + " " + top + " " + width + " " + height + ", kernel " + kernel;
        CHECKS.due("taken apart and back: " + name, Tiles.state(tile, left, top, width, height), before);
    }

    private static void forwardIsRefused() {
        CHECKS.due("forward(0) without a tile", new LiftedTile().forward(0), false);
        LiftedTile tile = Tiles.row(0, 0, 5, 6, 7);
        for (int kernel : new int[] {-1, 3, Integer.MIN_VALUE, Integer.MAX_VALUE}) {
            CHECKS.due("forward(" + kernel + ")", tile.forward(kernel), false);
        }
        CHECKS.due("levels() after refused calls", tile.levels(), 0);
        CHECKS.due("values after refused calls", Tiles.plane(tile, 0, 0, 0, 3, 1), "5 6 7");
        for (int d = 0; d < 4; d++) {
            CHECKS.due("forward(1)", tile.forward(1), true);
        }
        String full = Tiles.state(tile, 0, 0, 3, 1);
        CHECKS.due("forward(0) with 4 levels", tile.forward(0), false);
        CHECKS.due("state after the fifth", Tiles.state(tile, 0, 0, 3, 1), full);
    }

    private static void backIsRefused() {
        CHECKS.due("back() without a tile", new LiftedTile().back(), false);
        LiftedTile tile = Tiles.row(1, 1, 5, 6, 7);
        CHECKS.due("back() without levels", tile.back(), false);
        CHECKS.due("values after back() refused", Tiles.plane(tile, 0, 1, 1, 3, 1), "5 6 7");
        tile.forward(0);
        tile.open(1, 1, 3, 1);
        CHECKS.due("back() after open", tile.back(), false);
    }

    private static void kernelsAreKnown() {
        LiftedTile tile = Tiles.row(0, 0, 1, 2, 3);
        tile.forward(2);
        tile.forward(0);
        tile.forward(1);
        CHECKS.due("kernel(0)", tile.kernel(0), -1);
        CHECKS.due("kernel(1)", tile.kernel(1), 2);
        CHECKS.due("kernel(2)", tile.kernel(2), 0);
        CHECKS.due("kernel(3)", tile.kernel(3), 1);
        CHECKS.due("kernel(4)", tile.kernel(4), -1);
        CHECKS.due("kernel(5)", tile.kernel(5), -1);
        CHECKS.due("kernel(least)", tile.kernel(Integer.MIN_VALUE), -1);
        CHECKS.due("kernel(greatest)", tile.kernel(Integer.MAX_VALUE), -1);
        tile.forward(2);
        CHECKS.due("kernel(4) of four levels", tile.kernel(4), 2);
        CHECKS.due("kernel(5) of four levels", tile.kernel(5), -1);
        tile.back();
        tile.back();
        CHECKS.due("kernel(3) after back", tile.kernel(3), -1);
        CHECKS.due("kernel(2) after back", tile.kernel(2), 0);
        CHECKS.due("levels() after back", tile.levels(), 2);
        tile.forward(0);
        CHECKS.due("kernel(3) anew", tile.kernel(3), 0);
    }
}
