import java.util.ArrayList;
import java.util.List;

/**
 * Values as great as 512 calls are known to bring them: a sum of kernel 2 that is past 1,900,000,000, and no wrap yet.
 *
 * <p>Values grow by thinning alone, which adds at most 16383 to an amount each time. A search over all kernels, levels
 * and sides for the steepest way from the values of one subband to one sum found the way that is taken here: from
 * subband 0 of a level of kernel 2, by back() and mix(), to kernel 2 in a level above those of the kernels 0, 1 and 1.
 * The sum grows by 263.03 times what the values grow by. So 2 to the power of 31 is 499 times thin() away, with some
 * fifty values at work, and 512 calls do not suffice to put these too.
 */
public final class FarTest {
    private static final Checks CHECKS = new Checks();
    private static final int CORNER = 5;
    private static final int SIDE = 12;
    private static final int THINS = 453;
    private static final int MAX_STEP = 32767;

    public static void main(String[] args) {
        Model model = new Model();
        model.open(CORNER, CORNER, SIDE, SIDE);
        putSigns(model::put);
        model.forward(2);
        List<Integer> steps = thinUp(model);
        model.back();
        model.mix();
        int[] kernels = {0, 1, 1, 2};
        for (int kernel : kernels) {
            model.forward(kernel);
        }
        CHECKS.due("the farthest sum is past 1900000000", model.farthest() > 1_900_000_000L, true);
        CHECKS.due("the farthest sum is an int", model.farthest() <= Integer.MAX_VALUE, true);

        Recipe recipe = Tiles.empty(CORNER, CORNER, SIDE, SIDE).then(tile -> putSigns(tile::put));
        recipe = recipe.then(Tiles.forward(2)).then(tile -> steps.forEach(step -> tile.thin(1, 0, step)));
        recipe = recipe.then(Tiles.back(1)).then(Tile::mix).then(Tiles.forward(kernels));
        CHECKS.due("calls left for the answer", Tiles.made(recipe).callsLeft(), 1);
        compare(new Reading(recipe), model);
        CHECKS.end();
    }

    /** What put() is, of the tile or of the Model. */
    private interface Put {
        boolean put(int plane, int x, int y, int value);
    }

    /** The signs that each value of subband 0 has in that sum, for r - g. */
    private static void putSigns(Put put) {
        for (int y = 8; y <= 16; y += 2) {
            for (int x = 8; x <= 16; x += 2) {
                int value = x < 13 == y < 13 ? -32767 : 32767;
                put.put(0, x, y, value);
                put.put(1, x, y, -value);
            }
        }
    }

    private static List<Integer> thinUp(Model model) {
        // These two make all amounts alike, so that one step serves them all.
        List<Integer> steps = new ArrayList<>(List.of(6271, 9406));
        steps.forEach(step -> model.thin(1, 0, step));
        while (steps.size() < THINS) {
            int step = steepest(Math.abs(model.at(0, 16, 16)));
            model.thin(1, 0, step);
            steps.add(step);
        }
        return steps;
    }

    /** The step that makes the most of an amount. */
    private static int steepest(int amount) {
        int best = 1;
        for (int step = 1; step <= MAX_STEP; step++) {
            if (amount / step * step + step / 2 > amount / best * best + best / 2) {
                best = step;
            }
        }
        return best;
    }

    private static void compare(Reading reading, Model model) {
        for (int plane = 0; plane < 3; plane++) {
            for (int y = CORNER; y < CORNER + SIDE; y++) {
                for (int x = CORNER; x < CORNER + SIDE; x++) {
                    String call = "at(" + plane + ", " + x + ", " + y + ")";
                    CHECKS.due(call, reading.at(plane, x, y), model.at(plane, x, y));
                }
            }
        }
    }
}
