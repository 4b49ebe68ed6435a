import java.util.ArrayList;
import java.util.List;
import java.util.Map;
import java.util.TreeMap;

/** The document's words once more, as literally as they can be written and as slow as that is. */
final class Model {
    private record Place(int x, int y) {
    }

    private boolean tile;
    private boolean mixed;
    private int left;
    private int top;
    private int width;
    private int height;
    private long farthest;
    private final List<Integer> kernels = new ArrayList<>();
    private final List<Map<String, Integer>> planes = List.of(new TreeMap<>(), new TreeMap<>(), new TreeMap<>());

    boolean open(int newLeft, int newTop, int newWidth, int newHeight) {
        if (newLeft < 0 || newLeft > 1000 || newTop < 0 || newTop > 1000) {
            return false;
        }
        if (newWidth < 1 || newWidth > 16 || newHeight < 1 || newHeight > 16) {
            return false;
        }
        tile = true;
        mixed = false;
        left = newLeft;
        top = newTop;
        width = newWidth;
        height = newHeight;
        kernels.clear();
        for (Map<String, Integer> plane : planes) {
            plane.clear();
            for (Place place : places()) {
                plane.put(key(place.x, place.y), 0);
            }
        }
        return true;
    }

    boolean put(int plane, int x, int y, int value) {
        if (plane < 0 || plane > 2 || !planes.get(plane).containsKey(key(x, y))) {
            return false;
        }
        if (value < -32768 || value > 32767 || !kernels.isEmpty() || mixed) {
            return false;
        }
        planes.get(plane).put(key(x, y), value);
        return true;
    }

    int at(int plane, long x, long y) {
        return plane < 0 || plane > 2 ? 0 : planes.get(plane).getOrDefault(key(x, y), 0);
    }

    boolean mix() {
        if (!tile || !kernels.isEmpty() || mixed) {
            return false;
        }
        for (Place place : places()) {
            int r = at(0, place.x, place.y);
            int g = at(1, place.x, place.y);
            int b = at(2, place.x, place.y);
            set(place, wrapped((long) r + 2L * g + b) >> 2, wrapped((long) b - g), wrapped((long) r - g));
        }
        mixed = true;
        return true;
    }

    boolean unmix() {
        if (!kernels.isEmpty() || !mixed) {
            return false;
        }
        for (Place place : places()) {
            int p = at(0, place.x, place.y);
            int q = at(1, place.x, place.y);
            int t = at(2, place.x, place.y);
            int g = wrapped((long) p - (wrapped((long) q + t) >> 2));
            set(place, wrapped((long) t + g), g, wrapped((long) q + g));
        }
        mixed = false;
        return true;
    }

    boolean mixed() {
        return mixed;
    }

    boolean forward(int kernel) {
        if (!tile || kernel < 0 || kernel > 2 || kernels.size() == 4) {
            return false;
        }
        kernels.add(kernel);
        for (Map<String, Integer> plane : planes) {
            liftColumns(plane, true);
            liftRows(plane, true);
        }
        return true;
    }

    boolean back() {
        if (kernels.isEmpty()) {
            return false;
        }
        for (Map<String, Integer> plane : planes) {
            liftRows(plane, false);
            liftColumns(plane, false);
        }
        kernels.remove(kernels.size() - 1);
        return true;
    }

    int levels() {
        return kernels.size();
    }

    int kernel(int d) {
        return d < 1 || d > kernels.size() ? -1 : kernels.get(d - 1);
    }

    int start(int d, int o, boolean down) {
        if (!tile || d < 1 || d > 4 || o < 0 || o > 3) {
            return -1;
        }
        int least = -100;
        while (place(d, down ? o >> 1 : o & 1, least) < (down ? top : left)) {
            least++;
        }
        return least;
    }

    int size(int d, int o, boolean down) {
        if (!tile || d < 1 || d > 4 || o < 0 || o > 3) {
            return -1;
        }
        int size = 0;
        for (int c = -10; c < 1100; c++) {
            long place = place(d, down ? o >> 1 : o & 1, c);
            boolean isThere = down ? place >= top && place <= top + height - 1
                    : place >= left && place <= left + width - 1;
            size += isThere ? 1 : 0;
        }
        return size;
    }

    int coefficient(int plane, int d, int o, int u, int v) {
        if (d < 1 || d > kernels.size() || o < 0 || o > 3) {
            return 0;
        }
        return at(plane, place(d, o & 1, u), place(d, o >> 1, v));
    }

    int thin(int d, int o, int step) {
        if (d < 1 || d > kernels.size() || o < 0 || o > 3 || step < 1 || step > 32767) {
            return -1;
        }
        if (o == 0 && d != kernels.size()) {
            return -1;
        }
        int vanished = 0;
        for (Map<String, Integer> plane : planes) {
            for (String key : subband(d, o)) {
                int c = plane.get(key);
                long m = c < 0 ? -(long) c : c;
                long k = m / step;
                long amount = k == 0 ? 0 : k * step + step / 2;
                int thinned = wrapped(c < 0 ? -amount : amount);
                vanished += c != 0 && thinned == 0 ? 1 : 0;
                plane.put(key, thinned);
            }
        }
        return vanished;
    }

    long weight(int plane, int d, int o) {
        if (d < 1 || d > kernels.size() || o < 0 || o > 3 || plane < 0 || plane > 2) {
            return -1;
        }
        long sum = 0;
        for (String key : subband(d, o)) {
            long c = planes.get(plane).get(key);
            sum += c < 0 ? -c : c;
        }
        return sum;
    }

    /** The greatest amount that a sum, a difference or a product of values had before it was wrapped. */
    long farthest() {
        return farthest;
    }

    private int wrapped(long exact) {
        farthest = Math.max(farthest, Math.abs(exact));
        return (int) exact;
    }

    private static String key(long x, long y) {
        return x + " " + y;
    }

    private List<Place> places() {
        List<Place> places = new ArrayList<>();
        for (int y = top; y <= top + height - 1; y++) {
            for (int x = left; x <= left + width - 1; x++) {
                places.add(new Place(x, y));
            }
        }
        return places;
    }

    private void set(Place place, int first, int second, int third) {
        planes.get(0).put(key(place.x, place.y), first);
        planes.get(1).put(key(place.x, place.y), second);
        planes.get(2).put(key(place.x, place.y), third);
    }

    private static int spacing(int d) {
        return new int[] {1, 2, 4, 8}[d - 1];
    }

    private static long place(int d, int bit, int coordinate) {
        return 2L * spacing(d) * coordinate + (long) spacing(d) * bit;
    }

    private List<String> subband(int d, int o) {
        List<String> keys = new ArrayList<>();
        for (Place place : places()) {
            long x = place.x - (long) spacing(d) * (o & 1);
            long y = place.y - (long) spacing(d) * (o >> 1);
            if (x % (2 * spacing(d)) == 0 && y % (2 * spacing(d)) == 0) {
                keys.add(key(place.x, place.y));
            }
        }
        return keys;
    }

    private void liftColumns(Map<String, Integer> plane, boolean forth) {
        int s = spacing(kernels.size());
        for (int x = left; x <= left + width - 1; x++) {
            TreeMap<Integer, Integer> line = new TreeMap<>();
            for (int y = top; y <= top + height - 1; y++) {
                if (x % s == 0 && y % s == 0) {
                    line.put(y / s, plane.get(key(x, y)));
                }
            }
            lift(line, forth);
            for (int n : line.keySet()) {
                plane.put(key(x, n * s), line.get(n));
            }
        }
    }

    private void liftRows(Map<String, Integer> plane, boolean forth) {
        int s = spacing(kernels.size());
        for (int y = top; y <= top + height - 1; y++) {
            TreeMap<Integer, Integer> line = new TreeMap<>();
            for (int x = left; x <= left + width - 1; x++) {
                if (x % s == 0 && y % s == 0) {
                    line.put(x / s, plane.get(key(x, y)));
                }
            }
            lift(line, forth);
            for (int n : line.keySet()) {
                plane.put(key(n * s, y), line.get(n));
            }
        }
    }

    private void lift(TreeMap<Integer, Integer> line, boolean forth) {
        if (line.size() == 1) {
            int a = line.firstKey();
            int v = line.get(a);
            if (a % 2 == 1) {
                line.put(a, forth ? wrapped(2L * v) : v >> 1);
            }
        } else if (forth) {
            step(line, 1, -1);
            step(line, 0, 1);
        } else {
            step(line, 0, -1);
            step(line, 1, 1);
        }
    }

    private void step(TreeMap<Integer, Integer> line, int parity, int sign) {
        int kernel = kernels.get(kernels.size() - 1);
        for (int n : line.keySet()) {
            if (n % 2 == parity) {
                int change = parity == 1 ? prediction(line, kernel, n) : update(line, kernel, n);
                line.put(n, wrapped(line.get(n) + (long) sign * change));
            }
        }
    }

    private int prediction(TreeMap<Integer, Integer> line, int kernel, int n) {
        if (kernel == 0) {
            return wrapped(value(line, n - 1) + value(line, n + 1)) >> 1;
        }
        if (kernel == 1) {
            return (int) value(line, n - 1);
        }
        long near = value(line, n - 1) + value(line, n + 1);
        return wrapped(9 * near - value(line, n - 3) - value(line, n + 3) + 8) >> 4;
    }

    private int update(TreeMap<Integer, Integer> line, int kernel, int n) {
        if (kernel == 1) {
            return (int) value(line, n + 1) >> 1;
        }
        return wrapped(value(line, n - 1) + value(line, n + 1) + 2) >> 2;
    }

    private static long value(TreeMap<Integer, Integer> line, int m) {
        int a = line.firstKey();
        int b = line.lastKey();
        int inside = m;
        while (inside < a || inside > b) {
            inside = inside < a ? 2 * a - inside : 2 * b - inside;
        }
        return line.get(inside);
    }
}
