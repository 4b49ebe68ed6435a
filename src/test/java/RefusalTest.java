import java.util.ArrayList;
import java.util.List;
import java.util.function.Predicate;
import java.util.function.ToLongFunction;

/** "A call that is refused changes nothing": every call that can be refused, in every kind of state. */
public final class RefusalTest {
    private static final Checks CHECKS = new Checks();
    private static final int LEFT = 3;
    private static final int TOP = 2;
    private static final int WIDTH = 6;
    private static final int HEIGHT = 7;
    private static final Recipe FILLED = Tiles.filled(LEFT, TOP, WIDTH, HEIGHT);

    /** A call with the answer that refuses it. */
    private record Call(String name, ToLongFunction<Tile> asked, long refusal) {
    }

    private static final Call MIX = yesOrNo("mix()", Tile::mix);
    private static final Call UNMIX = yesOrNo("unmix()", Tile::unmix);
    private static final Call BACK = yesOrNo("back()", Tile::back);

    /** What every state refuses. */
    private static final List<Call> ALWAYS = List.of(
            open(-1, TOP, WIDTH, HEIGHT), open(1001, TOP, WIDTH, HEIGHT),
            open(LEFT, -1, WIDTH, HEIGHT), open(LEFT, 1001, WIDTH, HEIGHT),
            open(LEFT, TOP, 0, HEIGHT), open(LEFT, TOP, 17, HEIGHT),
            open(LEFT, TOP, WIDTH, 0), open(LEFT, TOP, WIDTH, 17),
            put(-1, LEFT, TOP, 11), put(3, LEFT, TOP, 11),
            put(0, LEFT - 1, TOP, 11), put(0, LEFT + WIDTH, TOP, 11),
            put(0, LEFT, TOP - 1, 11), put(0, LEFT, TOP + HEIGHT, 11),
            put(0, LEFT, TOP, -32769), put(0, LEFT, TOP, 32768),
            forward(-1), forward(3),
            thin(0, 1, 7), thin(5, 1, 7), thin(1, -1, 7), thin(1, 4, 7), thin(1, 1, 0), thin(1, 1, 32768));

    public static void main(String[] args) {
        Recipe none = tile -> { };
        refused("no tile", none, put(0, 0, 0, 11), MIX, UNMIX, forward(0), BACK, thin(1, 1, 7));
        refused("no levels", FILLED, UNMIX, BACK, thin(1, 1, 7), thin(1, 0, 7));
        Recipe mixed = FILLED.then(Tile::mix);
        refused("mixed", mixed, put(0, LEFT, TOP, 11), MIX, BACK, thin(1, 1, 7));
        Recipe mixedLevel = mixed.then(Tiles.forward(1));
        refused("mixed, a level", mixedLevel, put(2, LEFT, TOP, 11), MIX, UNMIX, thin(2, 1, 7));
        Recipe two = FILLED.then(Tiles.forward(0, 2));
        refused("two levels", two, put(0, LEFT, TOP, 11), MIX, UNMIX, thin(1, 0, 7), thin(3, 1, 7));
        Recipe four = two.then(Tiles.forward(1, 0));
        refused("four levels", four, put(0, LEFT, TOP, 11), MIX, UNMIX, forward(0), forward(1), forward(2),
                thin(1, 0, 7), thin(2, 0, 7), thin(3, 0, 7));
        CHECKS.end();
    }

    private static Call yesOrNo(String name, Predicate<Tile> asked) {
        return new Call(name, tile -> asked.test(tile) ? 1 : 0, 0);
    }

    private static Call open(int left, int top, int width, int height) {
        String name = "open(" + left + ", " + top + ", " + width + ", " + height + ")";
        return yesOrNo(name, tile -> tile.open(left, top, width, height));
    }

    private static Call put(int plane, int x, int y, int value) {
        String name = "put(" + plane + ", " + x + ", " + y + ", " + value + ")";
        return yesOrNo(name, tile -> tile.put(plane, x, y, value));
    }

    private static Call forward(int kernel) {
        return yesOrNo("forward(" + kernel + ")", tile -> tile.forward(kernel));
    }

    private static Call thin(int d, int o, int step) {
        String name = "thin(" + d + ", " + o + ", " + step + ")";
        return new Call(name, tile -> tile.thin(d, o, step), -1);
    }

    private static void refused(String state, Recipe recipe, Call... more) {
        List<Call> calls = new ArrayList<>(ALWAYS);
        calls.addAll(List.of(more));
        String before = new Reading(recipe).state(LEFT, TOP, WIDTH, HEIGHT);
        for (Call call : calls) {
            String name = state + ": " + call.name();
            CHECKS.due(name, call.asked().applyAsLong(Tiles.made(recipe)), call.refusal());
            Reading after = new Reading(recipe.then(tile -> call.asked().applyAsLong(tile)));
            CHECKS.due("state after " + name, after.state(LEFT, TOP, WIDTH, HEIGHT), before);
        }
    }
}
