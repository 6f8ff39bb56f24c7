import java.util.ArrayList;
import java.util.List;
import java.util.NoSuchElementException;

/** The document once more, in the slowest and plainest way: every place is asked, every order is tried. */
final class PlainDesk {
    static final class Shape {
        int colour;
        int fill;
        int spacing;
        int direction;
        final List<List<int[]>> rings = new ArrayList<>();
        final List<List<int[]>> rails = new ArrayList<>();
        List<List<int[]>> runs;

        List<List<int[]>> allRings() {
            if (fill != 1) {
                return rings;
            }
            List<int[]> ring = new ArrayList<>(rails.get(0));
            for (int i = rails.get(1).size() - 1; i >= 0; i--) {
                ring.add(rails.get(1).get(i));
            }
            return List.of(ring);
        }

        int box(int what) {
            int answer = what < 2 ? 1000 : -1;
            for (List<int[]> ring : allRings()) {
                for (int[] corner : ring) {
                    int number = corner[what % 2];
                    answer = what < 2 ? Math.min(answer, number) : Math.max(answer, number);
                }
            }
            return answer;
        }
    }

    final List<Shape> shapes = new ArrayList<>();
    final List<int[]> records = new ArrayList<>();
    private List<Integer> order = new ArrayList<>();
    private final List<Integer> bytes = new ArrayList<>();
    private Shape open;
    private int[] fault = {0, -1, -1};

    void begin(int colour, int fill, int spacing, int direction) {
        if (open != null) {
            throw new IllegalStateException();
        }
        if (shapes.size() == 10) {
            throw new UnsupportedOperationException();
        }
        if (colour < 0 || colour > 7 || fill < 0 || fill > 2 || spacing < 4 || spacing > 20
                || direction < 0 || direction > 3) {
            throw new IllegalArgumentException();
        }
        open = new Shape();
        open.colour = colour;
        open.fill = fill;
        open.spacing = spacing;
        open.direction = direction;
        for (int i = 0; i < 4; i++) {
            open.rings.add(new ArrayList<>());
        }
        open.rails.add(new ArrayList<>());
        open.rails.add(new ArrayList<>());
    }

    private static boolean isPlace(int x, int y) {
        return x >= 0 && x <= 600 && y >= 0 && y <= 600;
    }

    int corner(int ring, int x, int y) {
        if (open == null || open.fill == 1) {
            throw new IllegalStateException();
        }
        return add(open.rings, ring, x, y, 24);
    }

    int rail(int side, int x, int y) {
        if (open == null || open.fill != 1) {
            throw new IllegalStateException();
        }
        return add(open.rails, side, x, y, 16);
    }

    private int add(List<List<int[]>> rows, int row, int x, int y, int most) {
        if (row < 0 || row >= rows.size() || !isPlace(x, y)) {
            throw new IllegalArgumentException();
        }
        if (rows.get(row).size() == most) {
            throw new UnsupportedOperationException();
        }
        rows.get(row).add(new int[] {x, y});
        return rows.get(row).size();
    }

    int end() {
        if (open == null) {
            throw new IllegalStateException();
        }
        Shape shape = open;
        open = null;
        fault = new int[] {0, -1, -1};
        fault[0] = firstFault(shape);
        if (fault[0] == 0) {
            shape.runs = runsOf(shape);
            order.add(shapes.size());
            shapes.add(shape);
        }
        return fault[0];
    }

    int fault(int w) {
        return w >= 0 && w <= 2 ? fault[w] : -1;
    }

    private int firstFault(Shape shape) {
        if (shape.fill == 1) {
            int a = shape.rails.get(0).size();
            int b = shape.rails.get(1).size();
            return a != b || a < 2 ? 1 : 0;
        }
        if (shape.rings.get(0).isEmpty()) {
            return 1;
        }
        for (List<int[]> ring : shape.rings) {
            if (!ring.isEmpty() && isFlat(ring)) {
                return 1;
            }
        }
        if (isCrossed(shape)) {
            return 2;
        }
        for (int hole = 1; hole < 4; hole++) {
            List<int[]> ring = shape.rings.get(hole);
            if (!ring.isEmpty() && !isInside(shape.rings.get(0), ring.get(0)[0], ring.get(0)[1])) {
                return 3;
            }
        }
        for (int hole = 1; hole < 4; hole++) {
            for (int mate = 1; mate < 4; mate++) {
                List<int[]> ring = shape.rings.get(hole);
                if (hole != mate && !ring.isEmpty()
                        && isInside(shape.rings.get(mate), ring.get(0)[0], ring.get(0)[1])) {
                    return 4;
                }
            }
        }
        return 0;
    }

    private static long cross(int[] a, int[] b, int[] c) {
        return (long) (b[0] - a[0]) * (c[1] - a[1]) - (long) (b[1] - a[1]) * (c[0] - a[0]);
    }

    private static boolean isFlat(List<int[]> ring) {
        for (int[] a : ring) {
            for (int[] b : ring) {
                for (int[] c : ring) {
                    if (cross(a, b, c) != 0) {
                        return false;
                    }
                }
            }
        }
        return true;
    }

    private boolean isCrossed(Shape shape) {
        List<int[][]> edges = new ArrayList<>();
        List<int[]> names = new ArrayList<>();
        for (int r = 0; r < 4; r++) {
            List<int[]> ring = shape.rings.get(r);
            for (int i = 0; i < ring.size(); i++) {
                edges.add(new int[][] {ring.get(i), ring.get((i + 1) % ring.size())});
                names.add(new int[] {r, i, ring.size()});
            }
        }
        for (int i = 0; i < edges.size(); i++) {
            for (int j = 0; j < edges.size(); j++) {
                if (i != j && sharedPoints(edges.get(i), edges.get(j))
                        >= (areNeighbours(names.get(i), names.get(j)) ? 2 : 1)) {
                    fault[1] = i;
                    fault[2] = j;
                    return true;
                }
            }
        }
        return false;
    }

    private static boolean areNeighbours(int[] a, int[] b) {
        return a[0] == b[0] && ((a[1] + 1) % a[2] == b[1] || (b[1] + 1) % b[2] == a[1]);
    }

    /** 0, 1, or 2 for more than one. */
    private static int sharedPoints(int[][] e, int[][] g) {
        long rx = e[1][0] - e[0][0];
        long ry = e[1][1] - e[0][1];
        long sx = g[1][0] - g[0][0];
        long sy = g[1][1] - g[0][1];
        long qx = g[0][0] - e[0][0];
        long qy = g[0][1] - e[0][1];
        long d = rx * sy - ry * sx;
        if (d != 0) {
            long t = (qx * sy - qy * sx) * Long.signum(d);
            long u = (qx * ry - qy * rx) * Long.signum(d);
            long whole = Math.abs(d);
            return t >= 0 && t <= whole && u >= 0 && u <= whole ? 1 : 0;
        }
        if (rx == 0 && ry == 0) {
            return isOn(g, e[0][0], e[0][1]) ? 1 : 0;
        }
        if (sx == 0 && sy == 0) {
            return isOn(e, g[0][0], g[0][1]) ? 1 : 0;
        }
        if (qx * ry - qy * rx != 0) {
            return 0;
        }
        int axis = rx != 0 ? 0 : 1;
        int low = Math.max(Math.min(e[0][axis], e[1][axis]), Math.min(g[0][axis], g[1][axis]));
        int high = Math.min(Math.max(e[0][axis], e[1][axis]), Math.max(g[0][axis], g[1][axis]));
        return low < high ? 2 : low == high ? 1 : 0;
    }

    private static boolean isOn(int[][] e, int x, int y) {
        return cross(e[0], e[1], new int[] {x, y}) == 0
                && x >= Math.min(e[0][0], e[1][0]) && x <= Math.max(e[0][0], e[1][0])
                && y >= Math.min(e[0][1], e[1][1]) && y <= Math.max(e[0][1], e[1][1]);
    }

    private static boolean isOnEdge(List<int[]> ring, int x, int y) {
        for (int i = 0; i < ring.size(); i++) {
            if (isOn(new int[][] {ring.get(i), ring.get((i + 1) % ring.size())}, x, y)) {
                return true;
            }
        }
        return false;
    }

    private static boolean isInside(List<int[]> ring, int x, int y) {
        if (isOnEdge(ring, x, y)) {
            return false;
        }
        int right = 0;
        for (int i = 0; i < ring.size(); i++) {
            int[] a = ring.get(i);
            int[] b = ring.get((i + 1) % ring.size());
            boolean straddles = a[1] > y && b[1] <= y || b[1] > y && a[1] <= y;
            if (!straddles) {
                continue;
            }
            // The upper end is made the second one, so that the divisor is above 0.
            int[] low = a[1] < b[1] ? a : b;
            int[] high = a[1] < b[1] ? b : a;
            long height = high[1] - low[1];
            long at = low[0] * height + (long) (y - low[1]) * (high[0] - low[0]);
            if (at > x * height) {
                right++;
            }
        }
        return right % 2 == 1;
    }

    static boolean isIn(Shape shape, int x, int y) {
        int inside = 0;
        for (List<int[]> ring : shape.allRings()) {
            if (isOnEdge(ring, x, y)) {
                return true;
            }
            if (isInside(ring, x, y)) {
                inside++;
            }
        }
        return inside % 2 == 1;
    }

    static int floor(int a, int b) {
        int q = a / b;
        return q * b > a ? q - 1 : q;
    }

    static int ceil(int a, int b) {
        return -floor(-a, b);
    }

    private static List<List<int[]>> runsOf(Shape shape) {
        List<List<int[]>> runs = new ArrayList<>();
        if (shape.fill == 2) {
            for (List<int[]> ring : shape.rings) {
                if (!ring.isEmpty()) {
                    List<int[]> run = new ArrayList<>(ring);
                    run.add(ring.get(0));
                    runs.add(run);
                }
            }
        } else if (shape.fill == 1) {
            runs.add(satinRun(shape));
        } else {
            for (int f = -600; f <= 1200; f++) {
                if (f % shape.spacing == 0) {
                    addHatchRuns(shape, f, runs);
                }
            }
        }
        return runs;
    }

    private static List<int[]> satinRun(Shape shape) {
        List<int[]> run = new ArrayList<>();
        int corners = shape.rails.get(0).size();
        for (int i = 0; i + 1 < corners; i++) {
            int far = 0;
            for (List<int[]> rail : shape.rails) {
                for (int axis = 0; axis < 2; axis++) {
                    far = Math.max(far, Math.abs(rail.get(i + 1)[axis] - rail.get(i)[axis]));
                }
            }
            int m = Math.max(1, ceil(far, shape.spacing));
            for (int k = 0; k < m; k++) {
                for (List<int[]> rail : shape.rails) {
                    int[] a = rail.get(i);
                    int[] b = rail.get(i + 1);
                    run.add(new int[] {floor(a[0] * m + k * (b[0] - a[0]), m),
                        floor(a[1] * m + k * (b[1] - a[1]), m)});
                }
            }
        }
        run.add(shape.rails.get(0).get(corners - 1));
        run.add(shape.rails.get(1).get(corners - 1));
        return run;
    }

    private static void addHatchRuns(Shape shape, int f, List<List<int[]>> runs) {
        List<List<int[]>> parts = new ArrayList<>();
        List<int[]> part = new ArrayList<>();
        for (int p = 0; p <= 601; p++) {
            int x = shape.direction == 1 ? f : p;
            int y = shape.direction == 0 ? f : shape.direction == 1 ? p : shape.direction == 2 ? f - p : f + p;
            boolean near = isPlace(x, y) && x >= shape.box(0) && x <= shape.box(2)
                    && y >= shape.box(1) && y <= shape.box(3);
            if (near && isIn(shape, x, y)) {
                part.add(new int[] {x, y});
            } else {
                if (part.size() >= 2) {
                    parts.add(List.of(part.get(0), part.get(part.size() - 1)));
                }
                part = new ArrayList<>();
            }
        }
        boolean even = f / shape.spacing % 2 == 0;
        for (int i = 0; i < parts.size(); i++) {
            List<int[]> run = parts.get(even ? i : parts.size() - 1 - i);
            runs.add(even ? run : List.of(run.get(1), run.get(0)));
        }
    }

    int shape(int n, int what) {
        if (n < 0 || n >= shapes.size()) {
            throw new NoSuchElementException();
        }
        Shape shape = shapes.get(n);
        if (what >= 4 && what <= 7) {
            return shape.box(what - 4);
        }
        int places = 0;
        for (List<int[]> run : shape.runs) {
            places += run.size();
        }
        return switch (what) {
            case 0 -> shape.colour;
            case 1 -> shape.fill;
            case 2 -> shape.spacing;
            case 3 -> shape.direction;
            case 8 -> shape.runs.size();
            case 9 -> places;
            default -> throw new IllegalArgumentException();
        };
    }

    int count(int what) {
        return switch (what) {
            case 0 -> shapes.size();
            case 1 -> records.size();
            case 2 -> bytes.size();
            case 3 -> open == null ? 0 : 1;
            default -> -1;
        };
    }

    int stitch() {
        records.clear();
        int[] at = {0, 0};
        Shape before = null;
        for (int n : order) {
            Shape shape = shapes.get(n);
            if (shape.runs.isEmpty()) {
                continue;
            }
            if (before != null && before.colour != shape.colour) {
                records.add(new int[] {0, 0, 3});
            }
            before = shape;
            boolean first = true;
            for (List<int[]> run : shape.runs) {
                List<int[]> steps = steps(at, run.get(0));
                boolean stays = !first;
                for (int[] step : steps) {
                    stays = stays && isIn(shape, step[0], step[1]);
                }
                if (stays) {
                    addMove(at, run.get(0), 0);
                } else {
                    addLeap(at, run.get(0));
                }
                first = false;
                for (int i = 1; i < run.size(); i++) {
                    addMove(run.get(i - 1), run.get(i), 0);
                }
                at = run.get(run.size() - 1);
            }
        }
        if (records.size() > 4000) {
            records.clear();
            return -1;
        }
        return records.size();
    }

    private static List<int[]> steps(int[] from, int[] to) {
        List<int[]> ends = new ArrayList<>();
        int dx = to[0] - from[0];
        int dy = to[1] - from[1];
        int n = ceil(Math.max(Math.abs(dx), Math.abs(dy)), 70);
        for (int k = 1; k <= n; k++) {
            ends.add(new int[] {from[0] + floor(k * dx, n), from[1] + floor(k * dy, n)});
        }
        return ends;
    }

    private void addLeap(int[] from, int[] to) {
        if (Math.abs(to[0] - from[0]) > 300 || Math.abs(to[1] - from[1]) > 300) {
            records.add(new int[] {0, 0, 2});
        }
        addMove(from, to, 1);
    }

    private void addMove(int[] from, int[] to, int kind) {
        int[] at = from;
        for (int[] end : steps(from, to)) {
            records.add(new int[] {end[0] - at[0], end[1] - at[1], kind});
            at = end;
        }
    }

    int record(int i, int f) {
        if (i < 0 || i >= records.size()) {
            throw new IndexOutOfBoundsException();
        }
        if (f < 0 || f > 2) {
            throw new IllegalArgumentException();
        }
        return records.get(i)[f];
    }

    int byteAt(int i) {
        if (i < 0 || i >= 3 * records.size()) {
            throw new IndexOutOfBoundsException();
        }
        int[] r = records.get(i / 3);
        int bits = bitsOf(r[0]) + (bitsOf(r[1]) << 10) + (r[2] << 20);
        return i % 3 == 0 ? bits / 65536 : i % 3 == 1 ? bits / 256 % 256 : bits % 256;
    }

    private static int bitsOf(int number) {
        // Every row of digits is tried: none but the one is that number.
        for (int bits = 0; bits < 1024; bits++) {
            if (numberOf(bits) == number) {
                return bits;
            }
        }
        throw new AssertionError();
    }

    /** 1000 if one of the digits is none. */
    private static int numberOf(int bits) {
        int number = 0;
        int worth = 1;
        for (int k = 0; k < 5; k++) {
            int digit = bits >> (2 * k) & 3;
            if (digit == 3) {
                return 1000;
            }
            number += digit == 1 ? worth : digit == 2 ? -worth : 0;
            worth *= 3;
        }
        return number;
    }

    int load(int i, int b) {
        if (i < 0 || i > bytes.size() || i == 1500) {
            throw new IndexOutOfBoundsException();
        }
        if (b < 0 || b > 255) {
            throw new IllegalArgumentException();
        }
        if (i == bytes.size()) {
            bytes.add(b);
        } else {
            bytes.set(i, b);
        }
        return bytes.size();
    }

    int decode() {
        List<int[]> read = new ArrayList<>();
        for (int i = 0; i < bytes.size(); i += 3) {
            if (i + 3 > bytes.size()) {
                return -1 - i;
            }
            int bits = bytes.get(i) * 65536 + bytes.get(i + 1) * 256 + bytes.get(i + 2);
            int dx = numberOf(bits % 1024);
            int dy = numberOf(bits / 1024 % 1024);
            if (dx == 1000 || dy == 1000 || bits >= 1 << 22) {
                return -1 - i;
            }
            read.add(new int[] {dx, dy, bits >> 20});
        }
        records.clear();
        records.addAll(read);
        bytes.clear();
        return records.size();
    }

    private List<Integer> best;
    private int bestChanges;

    int reorder() {
        best = order;
        bestChanges = 1000;
        tryOrders(new ArrayList<>(), 0);
        order = best;
        return shapes.isEmpty() ? 0 : bestChanges;
    }

    private void tryOrders(List<Integer> begun, int changes) {
        if (changes >= bestChanges) {
            return;
        }
        if (begun.size() == order.size()) {
            best = new ArrayList<>(begun);
            bestChanges = changes;
            return;
        }
        for (int k = 0; k < order.size(); k++) {
            int n = order.get(k);
            if (begun.contains(n) || waits(k, begun)) {
                continue;
            }
            boolean change = !begun.isEmpty()
                    && shapes.get(begun.get(begun.size() - 1)).colour != shapes.get(n).colour;
            begun.add(n);
            tryOrders(begun, changes + (change ? 1 : 0));
            begun.remove(begun.size() - 1);
        }
    }

    private boolean waits(int k, List<Integer> begun) {
        for (int j = 0; j < k; j++) {
            if (!begun.contains(order.get(j)) && meet(shapes.get(order.get(j)), shapes.get(order.get(k)))) {
                return true;
            }
        }
        return false;
    }

    private static boolean meet(Shape a, Shape b) {
        return Math.max(a.box(0), b.box(0)) <= Math.min(a.box(2), b.box(2))
                && Math.max(a.box(1), b.box(1)) <= Math.min(a.box(3), b.box(3));
    }

    int order(int k) {
        return k < 0 || k >= order.size() ? -1 : order.get(k);
    }

    int thread(int n) {
        int stops = 0;
        int thread = 0;
        for (int[] r : records) {
            stops += r[2] == 3 ? 1 : 0;
            if (stops == n && r[2] == 0) {
                int root = 0;
                while (root * root < r[0] * r[0] + r[1] * r[1]) {
                    root++;
                }
                thread += root;
            }
        }
        return thread;
    }

    int under(int x, int y) {
        if (!isPlace(x, y)) {
            throw new IllegalArgumentException();
        }
        int found = -1;
        for (int n : order) {
            if (isIn(shapes.get(n), x, y)) {
                found = n;
            }
        }
        return found;
    }

    int needle(int i, int f) {
        if (i < 0 || i > records.size()) {
            throw new IndexOutOfBoundsException();
        }
        if (f < 0 || f > 1) {
            throw new IllegalArgumentException();
        }
        int at = 0;
        for (int[] r : records.subList(0, i)) {
            at += r[f];
        }
        return at;
    }

    boolean hoop(int w, int h) {
        int[] least = {0, 0};
        int[] greatest = {0, 0};
        for (int f = 0; f < 2; f++) {
            int at = 0;
            for (int[] r : records) {
                at += r[f];
                least[f] = Math.min(least[f], at);
                greatest[f] = Math.max(greatest[f], at);
            }
        }
        return greatest[0] - least[0] <= w && greatest[1] - least[1] <= h;
    }

    int stop(int i) {
        for (int k = 0; k < records.size(); k++) {
            if (i >= 0 && k >= i && records.get(k)[2] == 3) {
                return k;
            }
        }
        return -1;
    }
}
