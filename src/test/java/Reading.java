import java.util.function.ToLongFunction;

/** Asks what a recipe makes, one call a question, on as many new objects as the questions need. */
final class Reading {
    private final Recipe recipe;
    private Tile tile;

    Reading(Recipe recipe) {
        this.recipe = recipe;
    }

    long ask(ToLongFunction<Tile> question) {
        if (tile == null || tile.callsLeft() == 0) {
            tile = new Tile();
            recipe.make(tile);
        }
        return question.applyAsLong(tile);
    }

    int at(int plane, int x, int y) {
        return (int) ask(tile -> tile.at(plane, x, y));
    }

    int coefficient(int plane, int d, int o, int u, int v) {
        return (int) ask(tile -> tile.coefficient(plane, d, o, u, v));
    }

    /** The values of a plane in a rectangle, row by row, parted by blanks. */
    String plane(int plane, int left, int top, int width, int height) {
        StringBuilder text = new StringBuilder();
        for (int y = top; y < top + height; y++) {
            for (int x = left; x < left + width; x++) {
                text.append(text.length() == 0 ? "" : " ").append(at(plane, x, y));
            }
        }
        return text.toString();
    }

    /** All that can be asked of a tile in a rectangle, with the places round about it, or of none. */
    String state(int left, int top, int width, int height) {
        StringBuilder text = new StringBuilder();
        text.append(ask(tile -> tile.mixed() ? 1 : 0)).append(' ').append(ask(Tile::levels));
        for (int d = 0; d <= 5; d++) {
            addLevel(text, d);
        }
        for (int plane = 0; plane < 3; plane++) {
            text.append(' ').append(plane(plane, left - 1, top - 1, width + 2, height + 2));
        }
        return text.toString();
    }

    private void addLevel(StringBuilder text, int d) {
        text.append(' ').append(ask(tile -> tile.kernel(d)));
        for (int i = 0; i < 4; i++) {
            int o = i;
            text.append(' ').append(ask(tile -> tile.start(d, o, false)));
            text.append(' ').append(ask(tile -> tile.start(d, o, true)));
            text.append(' ').append(ask(tile -> tile.size(d, o, false)));
            text.append(' ').append(ask(tile -> tile.size(d, o, true)));
            for (int j = 0; j < 3; j++) {
                int plane = j;
                text.append(' ').append(ask(tile -> tile.weight(plane, d, o)));
            }
        }
    }
}
