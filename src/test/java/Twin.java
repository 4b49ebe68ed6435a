/** A tile and a Model that are asked the same calls: every answer of the tile must be the Model's. */
final class Twin {
    final Tile tile = new Tile();
    final Model model = new Model();
    private final Checks checks;
    private final String name;

    Twin(Checks checks, String name) {
        this.checks = checks;
        this.name = name;
    }

    boolean open(int left, int top, int width, int height) {
        boolean want = model.open(left, top, width, height);
        String call = "open(" + left + ", " + top + ", " + width + ", " + height + ")";
        checks.due(name + call, tile.open(left, top, width, height), want);
        return want;
    }

    void put(int plane, int x, int y, int value) {
        String call = "put(" + plane + ", " + x + ", " + y + ", " + value + ")";
        checks.due(name + call, tile.put(plane, x, y, value), model.put(plane, x, y, value));
    }

    void at(int plane, int x, int y) {
        String call = "at(" + plane + ", " + x + ", " + y + ")";
        checks.due(name + call, tile.at(plane, x, y), model.at(plane, x, y));
    }

    void mix() {
        checks.due(name + "mix()", tile.mix(), model.mix());
    }

    void unmix() {
        checks.due(name + "unmix()", tile.unmix(), model.unmix());
    }

    void mixed() {
        checks.due(name + "mixed()", tile.mixed(), model.mixed());
    }

    void forward(int kernel) {
        checks.due(name + "forward(" + kernel + ")", tile.forward(kernel), model.forward(kernel));
    }

    void back() {
        checks.due(name + "back()", tile.back(), model.back());
    }

    void levels() {
        checks.due(name + "levels()", tile.levels(), model.levels());
    }

    void kernel(int d) {
        checks.due(name + "kernel(" + d + ")", tile.kernel(d), model.kernel(d));
    }

    void start(int d, int o, boolean down) {
        String call = "start(" + d + ", " + o + ", " + down + ")";
        checks.due(name + call, tile.start(d, o, down), model.start(d, o, down));
    }

    void size(int d, int o, boolean down) {
        String call = "size(" + d + ", " + o + ", " + down + ")";
        checks.due(name + call, tile.size(d, o, down), model.size(d, o, down));
    }

    void coefficient(int plane, int d, int o, int u, int v) {
        String call = "coefficient(" + plane + ", " + d + ", " + o + ", " + u + ", " + v + ")";
        checks.due(name + call, tile.coefficient(plane, d, o, u, v), model.coefficient(plane, d, o, u, v));
    }

    void thin(int d, int o, int step) {
        String call = "thin(" + d + ", " + o + ", " + step + ")";
        checks.due(name + call, tile.thin(d, o, step), model.thin(d, o, step));
    }

    void weight(int plane, int d, int o) {
        String call = "weight(" + plane + ", " + d + ", " + o + ")";
        checks.due(name + call, tile.weight(plane, d, o), model.weight(plane, d, o));
    }
}
