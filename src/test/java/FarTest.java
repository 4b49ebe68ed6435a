import java.util.ArrayList;
import java.util.List;

/**
 * Values as great as 512 calls are known to bring them: a sum of kernel 2 that is past 1,900,000,000, and no wrap yet.
 *
 * <p>Values grow by thinning alone, which adds at most 16383 to an amount each time. A search over all kernels, levels
 * and sides for the steepest way from the values of one subband to one sum found the way that is taken here: from
 * subband 0 of a level of kernel 2, by back() and mix(), to kernel 2 in a level above those of the kernels 0, 1 and 1.
 * The sum grows by 263.03 times what the values grow by. So 2 to the power of 31 is 499 times thin() away, with some
 * fifty values at work, and 512 calls do not suffice to put these too.
 */
public final class FarTest {
    private static final Checks CHECKS = new Checks();
    private static final int CORNER = 5;
    private static final int SIDE = 12;
    /** So that one call is left for a question. */
    private static final int MOST_THINS = 453;
    private static final int MAX_STEP = 32767;
    private static final int[] KERNELS = {0, 1, 1, 2};

    private final Model model = new Model();
    private final List<Integer> steps = new ArrayList<>();
    private final Recipe recipe;

    private FarTest(int thins) {
        model.open(CORNER, CORNER, SIDE, SIDE);
        putSigns(model::put);
        model.forward(2);
        thinUp(thins);
        model.back();
        model.mix();
        for (int kernel : KERNELS) {
            model.forward(kernel);
        }
        Recipe signs = Tiles.empty(CORNER, CORNER, SIDE, SIDE).then(tile -> putSigns(tile::put));
        Recipe great = signs.then(Tiles.forward(2)).then(tile -> steps.forEach(step -> tile.thin(1, 0, step)));
        recipe = great.then(Tiles.back(1)).then(Tile::mix).then(Tiles.forward(KERNELS));
    }

    public static void main(String[] args) {
        farSumsOfForward();
        farSumsOfBack();
        CHECKS.end();
    }

    private static void farSumsOfForward() {
        FarTest far = new FarTest(MOST_THINS);
        CHECKS.due("the farthest sum is past 1900000000", far.model.farthest() > 1_900_000_000L, true);
        CHECKS.due("the farthest sum is an int", far.model.farthest() <= Integer.MAX_VALUE, true);
        CHECKS.due("calls left for the answer", Tiles.made(far.recipe).callsLeft(), 1);
        Reading reading = new Reading(far.recipe);
        far.compareValues("taken apart", reading);
        far.compareWeights(reading);
    }

    private static void farSumsOfBack() {
        FarTest far = new FarTest(MOST_THINS - KERNELS.length - 1);
        for (int i = 0; i < KERNELS.length; i++) {
            far.model.back();
        }
        far.model.unmix();
        Recipe whole = far.recipe.then(Tiles.back(KERNELS.length)).then(Tile::unmix);
        CHECKS.due("calls left for the answer", Tiles.made(whole).callsLeft(), 1);
        far.compareValues("put together", new Reading(whole));
    }

    /** What put() is, of the tile or of the Model. */
    private interface Put {
        boolean put(int plane, int x, int y, int value);
    }

    /** The signs that each value of subband 0 has in that sum, for r - g. */
    private static void putSigns(Put put) {
        for (int y = 8; y <= 16; y += 2) {
            for (int x = 8; x <= 16; x += 2) {
                int value = x < 13 == y < 13 ? -32767 : 32767;
                put.put(0, x, y, value);
                put.put(1, x, y, -value);
            }
        }
    }

    private void thinUp(int thins) {
        // The first two make all amounts alike, so that one step serves them all.
        int[] alike = {6271, 9406};
        for (int i = 0; i < thins; i++) {
            int step = i < alike.length ? alike[i] : steepest(Math.abs(model.at(0, 16, 16)));
            model.thin(1, 0, step);
            steps.add(step);
        }
    }

    /** The step that makes the most of an amount. */
    private static int steepest(int amount) {
        int best = 1;
        for (int step = 1; step <= MAX_STEP; step++) {
            if (amount / step * step + step / 2 > amount / best * best + best / 2) {
                best = step;
            }
        }
        return best;
    }

    private void compareValues(String name, Reading reading) {
        for (int plane = 0; plane < 3; plane++) {
            for (int y = CORNER; y < CORNER + SIDE; y++) {
                for (int x = CORNER; x < CORNER + SIDE; x++) {
                    String call = name + ": at(" + plane + ", " + x + ", " + y + ")";
                    CHECKS.due(call, reading.at(plane, x, y), model.at(plane, x, y));
                }
            }
        }
    }

    private void compareWeights(Reading reading) {
        for (int i = 0; i < 48; i++) {
            int plane = i / 16;
            int d = i / 4 % 4 + 1;
            int o = i % 4;
            String call = "weight(" + plane + ", " + d + ", " + o + ")";
            CHECKS.due(call, reading.ask(tile -> tile.weight(plane, d, o)), model.weight(plane, d, o));
        }
    }
}
