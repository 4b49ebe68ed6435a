/** All promises: long runs of calls, answered by LiftedTile and by the Model, must be answered alike. */
public final class ModelTest {
    private static final Checks CHECKS = new Checks();
    private static final int RUNS = 600;
    private static final int[] ODD_ONES = {-1, -2, 3, 4, 5, 16, 17, 32, 33, 1 << 28, 1 << 29, 1 << 30, 1 << 31,
        Integer.MAX_VALUE, -(1 << 30)};

    private final Twin twin;
    private final int maxSide;
    private long seed;
    private int left;
    private int top;
    private int width;
    private int height;

    private ModelTest(int run) {
        twin = new Twin(CHECKS, "run " + run + ": ");
        seed = run * 2654435761L + 1;
        maxSide = run % 3 == 0 ? 3 : run % 3 == 1 ? 6 : 16;
    }

    public static void main(String[] args) {
        for (int run = 1; run <= RUNS && !CHECKS.failed(); run++) {
            new ModelTest(run).run();
        }
        CHECKS.end();
    }

    private void run() {
        int made = 0;
        if (below(10) > 0) {
            open();
            made++;
        }
        int puts = Math.min(width * height * 3, below(Tile.CALLS - 100));
        for (int i = 0; i < puts; i++, made++) {
            put();
        }
        for (; made < Tile.CALLS; made++) {
            call(below(64));
        }
    }

    /** A generator of its own, so that every run is the same in every Java. */
    private int below(int bound) {
        seed = seed * 6364136223846793005L + 1442695040888963407L;
        return (int) ((seed >>> 33) % bound);
    }

    /** Mostly from .. from + count - 1, now and then just beside it or far off. */
    private int about(int from, int count) {
        int way = below(24);
        if (way == 0) {
            return ODD_ONES[below(ODD_ONES.length)];
        }
        return way == 1 ? from - 1 : way == 2 ? from + count : from + below(Math.max(count, 1));
    }

    private void call(int kind) {
        switch (kind < 40 ? kind / 4 : kind - 30) {
            case 0 -> twin.forward(about(0, 3));
            case 1 -> twin.back();
            case 2 -> thin();
            case 3 -> twin.weight(about(0, 3), level(), about(0, 4));
            case 4 -> coefficient();
            case 5, 6, 7 -> at();
            case 8 -> twin.start(about(1, 4), about(0, 4), below(2) == 0);
            case 9 -> twin.size(about(1, 4), about(0, 4), below(2) == 0);
            case 10 -> twin.mix();
            case 11 -> twin.unmix();
            case 12 -> twin.mixed();
            case 13 -> twin.levels();
            case 14, 15 -> twin.kernel(about(1, 4));
            case 16 -> rareOpen();
            case 17, 18, 19 -> put();
            default -> at();
        }
    }

    private void rareOpen() {
        if (below(8) == 0) {
            open();
        } else {
            at();
        }
    }

    private void open() {
        int newLeft = below(3) == 0 ? about(0, 1001) : about(below(2) * 985, 16);
        int newTop = below(3) == 0 ? about(0, 1001) : about(below(2) * 985, 16);
        int newWidth = about(1, maxSide);
        int newHeight = about(1, maxSide);
        if (twin.open(newLeft, newTop, newWidth, newHeight)) {
            left = newLeft;
            top = newTop;
            width = newWidth;
            height = newHeight;
        }
    }

    private void put() {
        int value = below(2) == 0 ? about(-32768, 65536) : about(-40, 81);
        twin.put(about(0, 3), about(left, width), about(top, height), value);
    }

    private void at() {
        twin.at(about(0, 3), about(left, width), about(top, height));
    }

    /** Mostly a level that the tile has. */
    private int level() {
        return about(1, Math.max(1, twin.model.levels()));
    }

    private void coefficient() {
        int d = level();
        int o = about(0, 4);
        int u = about(twin.model.start(d, o, false), twin.model.size(d, o, false));
        int v = about(twin.model.start(d, o, true), twin.model.size(d, o, true));
        twin.coefficient(about(0, 3), d, o, u, v);
    }

    private void thin() {
        int step = below(2) == 0 ? about(1, 32767) : about(1, 12);
        twin.thin(level(), about(0, 4), step);
    }
}
