/** A LiftedTile that counts its calls: what it answers after the 512th is free, so no test may ask for it. */
final class Tile {
    static final int CALLS = 512;

    private final LiftedTile tile = new LiftedTile();
    private int calls;

    int callsLeft() {
        return CALLS - calls;
    }

    private LiftedTile asked() {
        if (calls == CALLS) {
            throw new IllegalStateException("a test asks one object more than " + CALLS + " calls");
        }
        calls++;
        return tile;
    }

    boolean open(int left, int top, int width, int height) {
        return asked().open(left, top, width, height);
    }

    boolean put(int plane, int x, int y, int value) {
        return asked().put(plane, x, y, value);
    }

    int at(int plane, int x, int y) {
        return asked().at(plane, x, y);
    }

    boolean mix() {
        return asked().mix();
    }

    boolean unmix() {
        return asked().unmix();
    }

    boolean mixed() {
        return asked().mixed();
    }

    boolean forward(int kernel) {
        return asked().forward(kernel);
    }

    boolean back() {
        return asked().back();
    }

    int levels() {
        return asked().levels();
    }

    int kernel(int d) {
        return asked().kernel(d);
    }

    int start(int d, int o, boolean down) {
        return asked().start(d, o, down);
    }

    int size(int d, int o, boolean down) {
        return asked().size(d, o, down);
    }

    int coefficient(int plane, int d, int o, int u, int v) {
        return asked().coefficient(plane, d, o, u, v);
    }

    int thin(int d, int o, int step) {
        return asked().thin(d, o, step);
    }

    long weight(int plane, int d, int o) {
        return asked().weight(plane, d, o);
    }
}
