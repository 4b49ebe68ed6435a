/** Makes tiles for tests, and reads them whole. */
final class Tiles {
    private Tiles() {
    }

    /** A tile of one row with these values in plane 0. */
    static LiftedTile row(int left, int top, int... values) {
        LiftedTile tile = new LiftedTile();
        tile.open(left, top, values.length, 1);
        for (int i = 0; i < values.length; i++) {
            tile.put(0, left + i, top, values[i]);
        }
        return tile;
    }

    /** A tile of one column with these values in plane 0. */
    static LiftedTile column(int left, int top, int... values) {
        LiftedTile tile = new LiftedTile();
        tile.open(left, top, 1, values.length);
        for (int i = 0; i < values.length; i++) {
            tile.put(0, left, top + i, values[i]);
        }
        return tile;
    }

    /** A tile with values of many sizes and both signs, other ones in each plane. */
    static LiftedTile filled(int left, int top, int width, int height) {
        LiftedTile tile = new LiftedTile();
        tile.open(left, top, width, height);
        for (int plane = 0; plane < 3; plane++) {
            for (int y = top; y < top + height; y++) {
                for (int x = left; x < left + width; x++) {
                    tile.put(plane, x, y, sample(plane, x, y));
                }
            }
        }
        return tile;
    }

    static int sample(int plane, int x, int y) {
        int mess = (plane + 1) * 7919 + x * 104729 + y * 1299709 + x * y * 31;
        return (mess & 3) == 0 ? Math.floorMod(mess, 65536) - 32768 : Math.floorMod(mess, 201) - 100;
    }

    /** The values of a plane, row by row, parted by blanks. */
    static String plane(LiftedTile tile, int plane, int left, int top, int width, int height) {
        StringBuilder text = new StringBuilder();
        for (int y = top; y < top + height; y++) {
            for (int x = left; x < left + width; x++) {
                text.append(text.length() == 0 ? "" : " ").append(tile.at(plane, x, y));
            }
        }
        return text.toString();
    }

    /** All that can be asked of a tile whose corner and sides these are, or of one that has none. */
    static String state(LiftedTile tile, int left, int top, int width, int height) {
        StringBuilder text = new StringBuilder();
        text.append(tile.mixed()).append(' ').append(tile.levels());
        for (int d = 0; d <= 5; d++) {
            text.append(' ').append(tile.kernel(d));
            for (int o = 0; o < 4; o++) {
                text.append(' ').append(tile.start(d, o, false)).append(' ').append(tile.start(d, o, true));
                text.append(' ').append(tile.size(d, o, false)).append(' ').append(tile.size(d, o, true));
                for (int plane = 0; plane < 3; plane++) {
                    text.append(' ').append(tile.weight(plane, d, o));
                }
            }
        }
        for (int plane = 0; plane < 3; plane++) {
            text.append(' ').append(plane(tile, plane, left - 1, top - 1, width + 2, height + 2));
        }
        return text.toString();
    }
}
