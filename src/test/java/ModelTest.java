/** All promises: long runs of calls, answered by LiftedTile and by the Model, must be answered alike. */
public final class ModelTest {
    private static final Checks CHECKS = new Checks();
    private static final int RUNS = 600;
    private static final int CALLS = 512;
    private static final int[] ODD_ONES = {-1, -2, 3, 4, 5, 16, 17, 32, 33, 1 << 28, 1 << 29, 1 << 30, 1 << 31,
        Integer.MAX_VALUE, -(1 << 30)};

    private final LiftedTile tile = new LiftedTile();
    private final Model model = new Model();
    private final String name;
    private final int maxSide;
    private long seed;
    private int left;
    private int top;
    private int width;
    private int height;

    private ModelTest(int run) {
        name = "run " + run + ": ";
        seed = run * 2654435761L + 1;
        maxSide = run % 3 == 0 ? 3 : run % 3 == 1 ? 6 : 16;
    }

    public static void main(String[] args) {
        for (int run = 1; run <= RUNS && !CHECKS.failed(); run++) {
            new ModelTest(run).run();
        }
        CHECKS.end();
    }

    private void run() {
        int made = 0;
        if (below(10) > 0) {
            open();
            made++;
        }
        int puts = Math.min(width * height * 3, below(CALLS - 100));
        for (int i = 0; i < puts; i++, made++) {
            put();
        }
        for (; made < CALLS; made++) {
            call(below(64));
        }
    }

    /** A generator of its own, so that every run is the same in every Java. */
    private int below(int bound) {
        seed = seed * 6364136223846793005L + 1442695040888963407L;
        return (int) ((seed >>> 33) % bound);
    }

    /** Mostly from .. from + count - 1, now and then just beside it or far off. */
    private int about(int from, int count) {
        int way = below(24);
        if (way == 0) {
            return ODD_ONES[below(ODD_ONES.length)];
        }
        return way == 1 ? from - 1 : way == 2 ? from + count : from + below(Math.max(count, 1));
    }

    private void call(int kind) {
        switch (kind < 40 ? kind / 4 : kind - 30) {
            case 0 -> forward();
            case 1 -> CHECKS.due(name + "back()", tile.back(), model.back());
            case 2 -> thin();
            case 3 -> weight();
            case 4 -> coefficient();
            case 5, 6, 7 -> at();
            case 8 -> start();
            case 9 -> size();
            case 10 -> CHECKS.due(name + "mix()", tile.mix(), model.mix());
            case 11 -> CHECKS.due(name + "unmix()", tile.unmix(), model.unmix());
            case 12 -> CHECKS.due(name + "mixed()", tile.mixed(), model.mixed());
            case 13 -> CHECKS.due(name + "levels()", tile.levels(), model.levels());
            case 14, 15 -> kernel();
            case 16 -> rareOpen();
            case 17, 18, 19 -> put();
            default -> at();
        }
    }

    private void rareOpen() {
        if (below(8) == 0) {
            open();
        } else {
            at();
        }
    }

    private void open() {
        int newLeft = below(3) == 0 ? about(0, 1001) : about(below(2) * 985, 16);
        int newTop = below(3) == 0 ? about(0, 1001) : about(below(2) * 985, 16);
        int newWidth = about(1, maxSide);
        int newHeight = about(1, maxSide);
        boolean want = model.open(newLeft, newTop, newWidth, newHeight);
        String call = "open(" + newLeft + ", " + newTop + ", " + newWidth + ", " + newHeight + ")";
        CHECKS.due(name + call, tile.open(newLeft, newTop, newWidth, newHeight), want);
        if (want) {
            left = newLeft;
            top = newTop;
            width = newWidth;
            height = newHeight;
        }
    }

    private void put() {
        int plane = about(0, 3);
        int x = about(left, width);
        int y = about(top, height);
        int value = below(2) == 0 ? about(-32768, 65536) : about(-40, 81);
        String call = "put(" + plane + ", " + x + ", " + y + ", " + value + ")";
        CHECKS.due(name + call, tile.put(plane, x, y, value), model.put(plane, x, y, value));
    }

    private void at() {
        int plane = about(0, 3);
        int x = about(left, width);
        int y = about(top, height);
        CHECKS.due(name + "at(" + plane + ", " + x + ", " + y + ")", tile.at(plane, x, y), model.at(plane, x, y));
    }

    private void forward() {
        int kernel = about(0, 3);
        CHECKS.due(name + "forward(" + kernel + ")", tile.forward(kernel), model.forward(kernel));
    }

    private void kernel() {
        int d = about(1, 4);
        CHECKS.due(name + "kernel(" + d + ")", tile.kernel(d), model.kernel(d));
    }

    private void start() {
        int d = about(1, 4);
        int o = about(0, 4);
        boolean down = below(2) == 0;
        String call = "start(" + d + ", " + o + ", " + down + ")";
        CHECKS.due(name + call, tile.start(d, o, down), model.start(d, o, down));
    }

    private void size() {
        int d = about(1, 4);
        int o = about(0, 4);
        boolean down = below(2) == 0;
        String call = "size(" + d + ", " + o + ", " + down + ")";
        CHECKS.due(name + call, tile.size(d, o, down), model.size(d, o, down));
    }

    private void coefficient() {
        int plane = about(0, 3);
        int d = about(1, Math.max(1, model.levels()));
        int o = about(0, 4);
        int u = about(model.start(d, o, false), model.size(d, o, false));
        int v = about(model.start(d, o, true), model.size(d, o, true));
        String call = "coefficient(" + plane + ", " + d + ", " + o + ", " + u + ", " + v + ")";
        CHECKS.due(name + call, tile.coefficient(plane, d, o, u, v), model.coefficient(plane, d, o, u, v));
    }

    private void thin() {
        int d = about(1, Math.max(1, model.levels()));
        int o = about(0, 4);
        int step = below(2) == 0 ? about(1, 32767) : about(1, 12);
        String call = "thin(" + d + ", " + o + ", " + step + ")";
        CHECKS.due(name + call, tile.thin(d, o, step), model.thin(d, o, step));
    }

    private void weight() {
        int plane = about(0, 3);
        int d = about(1, Math.max(1, model.levels()));
        int o = about(0, 4);
        String call = "weight(" + plane + ", " + d + ", " + o + ")";
        CHECKS.due(name + call, tile.weight(plane, d, o), model.weight(plane, d, o));
    }
}
