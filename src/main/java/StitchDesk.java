import java.util.NoSuchElementException;

/** A desk for embroidery: shapes come in by their corners, the needle's path goes out as packed steps. */
public final class StitchDesk {
    public static final int NONE = -1;

    private static final int GREATEST = 600;
    private static final int COLOURS = 8;
    private static final int FILLS = 3;
    private static final int LEAST_SPACING = 4;
    private static final int GREATEST_SPACING = 20;
    private static final int DIRECTIONS = 4;
    private static final int RINGS = 4;
    private static final int RAILS = 2;
    private static final int MOST_CORNERS = 24;
    private static final int MOST_RAIL_CORNERS = 16;
    private static final int MOST_EDGES = RINGS * MOST_CORNERS;
    private static final int MOST_SHAPES = 10;
    private static final int MOST_RECORDS = 4000;
    private static final int MOST_BYTES = 1500;
    private static final int BYTES_OF_RECORD = 3;

    private static final int HATCH = 0;
    private static final int SATIN = 1;

    private static final int FLAT = 1;
    private static final int CROSSED = 2;
    private static final int OUTSIDE = 3;
    private static final int WITHIN = 4;

    private static final int KIND_STITCH = 0;
    private static final int KIND_JUMP = 1;
    private static final int KIND_TRIM = 2;
    private static final int KIND_STOP = 3;

    private final Shape[] shapes;
    private final int[] sequence;
    private final int[] loaded;
    private final Inspector inspector;
    private final RunTeller teller;
    private final Path path;
    private final PathMaker maker;
    private final Planner planner;
    private int shapeTotal;
    private int loadedTotal;
    private boolean open;

    public StitchDesk() {
        shapes = new Shape[MOST_SHAPES];
        for (int n = 0; n < MOST_SHAPES; n++) {
            shapes[n] = new Shape();
        }
        sequence = new int[MOST_SHAPES];
        loaded = new int[MOST_BYTES];
        inspector = new Inspector();
        teller = new RunTeller();
        maker = new PathMaker();
        path = maker.path;
        planner = new Planner();
    }

    public void begin(int colour, int fill, int spacing, int direction)
            throws IllegalStateException, UnsupportedOperationException, IllegalArgumentException {
        if (open) {
            throw new IllegalStateException("a shape is open");
        }
        if (shapeTotal >= MOST_SHAPES) {
            throw new UnsupportedOperationException("there are ten shapes");
        }
        boolean known = isBelow(colour, COLOURS) && isBelow(fill, FILLS) && isBelow(direction, DIRECTIONS);
        if (!known || spacing < LEAST_SPACING || spacing > GREATEST_SPACING) {
            throw new IllegalArgumentException("no such shape");
        }
        shapes[shapeTotal].reset(colour, fill, spacing, direction);
        open = true;
    }

    public int corner(int ring, int x, int y)
            throws IllegalStateException, IllegalArgumentException, UnsupportedOperationException {
        if (!open || shapes[shapeTotal].fill == SATIN) {
            throw new IllegalStateException("no shape with rings is open");
        }
        if (!isBelow(ring, RINGS) || !isPlace(x, y)) {
            throw new IllegalArgumentException("no such ring or place");
        }
        Ring told = shapes[shapeTotal].rings[ring];
        if (told.size >= MOST_CORNERS) {
            throw new UnsupportedOperationException("the ring has 24 corners");
        }
        told.add(x, y);
        return told.size;
    }

    public int rail(int side, int x, int y)
            throws IllegalStateException, IllegalArgumentException, UnsupportedOperationException {
        if (!open || shapes[shapeTotal].fill != SATIN) {
            throw new IllegalStateException("no shape with rails is open");
        }
        if (!isBelow(side, RAILS) || !isPlace(x, y)) {
            throw new IllegalArgumentException("no such rail or place");
        }
        Ring told = shapes[shapeTotal].rails[side];
        if (told.size >= MOST_RAIL_CORNERS) {
            throw new UnsupportedOperationException("the rail has 16 corners");
        }
        told.add(x, y);
        return told.size;
    }

    public int end() throws IllegalStateException {
        if (!open) {
            throw new IllegalStateException("no shape is open");
        }
        open = false;
        Shape told = shapes[shapeTotal];
        int found = inspector.inspect(told);
        if (found == 0) {
            told.finish();
            teller.tell(told, told.tally);
            sequence[shapeTotal] = shapeTotal;
            shapeTotal++;
        }
        return found;
    }

    public int fault(int w) {
        switch (w) {
            case 0:
                return inspector.found;
            case 1:
                return inspector.lesser;
            case 2:
                return inspector.other;
            default:
                return NONE;
        }
    }

    public int shape(int n, int what) throws NoSuchElementException, IllegalArgumentException {
        if (!isBelow(n, shapeTotal)) {
            throw new NoSuchElementException("no such shape");
        }
        Shape asked = shapes[n];
        switch (what) {
            case 0:
                return asked.colour;
            case 1:
                return asked.fill;
            case 2:
                return asked.spacing;
            case 3:
                return asked.direction;
            case 4:
                return asked.left;
            case 5:
                return asked.top;
            case 6:
                return asked.right;
            case 7:
                return asked.bottom;
            case 8:
                return asked.tally.runs;
            case 9:
                return asked.tally.places;
            default:
                throw new IllegalArgumentException("no such number of a shape");
        }
    }

    public int count(int what) {
        switch (what) {
            case 0:
                return shapeTotal;
            case 1:
                return path.size;
            case 2:
                return loadedTotal;
            case 3:
                return open ? 1 : 0;
            default:
                return NONE;
        }
    }

    public int stitch() {
        maker.restart();
        for (int k = 0; k < shapeTotal && !path.overfull; k++) {
            Shape next = shapes[sequence[k]];
            maker.enter(next);
            teller.tell(next, maker);
        }
        if (path.overfull) {
            path.clear();
            return NONE;
        }
        return path.size;
    }

    public int record(int i, int f) throws IndexOutOfBoundsException, IllegalArgumentException {
        if (!isBelow(i, path.size)) {
            throw new IndexOutOfBoundsException("no such record");
        }
        switch (f) {
            case 0:
                return path.dx(i);
            case 1:
                return path.dy(i);
            case 2:
                return path.kind(i);
            default:
                throw new IllegalArgumentException("no such field of a record");
        }
    }

    public int byteAt(int i) throws IndexOutOfBoundsException {
        if (!isBelow(i, BYTES_OF_RECORD * path.size)) {
            throw new IndexOutOfBoundsException("no such byte");
        }
        int behind = BYTES_OF_RECORD - 1 - i % BYTES_OF_RECORD;
        return (path.packed(i / BYTES_OF_RECORD) >> (8 * behind)) & 255;
    }

    public int load(int i, int b) throws IndexOutOfBoundsException, IllegalArgumentException {
        if (i < 0 || i > loadedTotal || i >= MOST_BYTES) {
            throw new IndexOutOfBoundsException("no such byte");
        }
        if (b < 0 || b > 255) {
            throw new IllegalArgumentException("no byte");
        }
        loaded[i] = b;
        if (i == loadedTotal) {
            loadedTotal++;
        }
        return loadedTotal;
    }

    public int decode() {
        int wrong = firstWrongGroup();
        if (wrong != NONE) {
            return -1 - wrong;
        }
        path.clear();
        for (int i = 0; i < loadedTotal; i += BYTES_OF_RECORD) {
            path.addPacked(groupAt(i));
        }
        loadedTotal = 0;
        return path.size;
    }

    public int reorder() {
        return planner.plan(shapes, sequence, shapeTotal);
    }

    public int order(int k) {
        return isBelow(k, shapeTotal) ? sequence[k] : NONE;
    }

    public int thread(int n) {
        return path.threadBehind(n);
    }

    public int under(int x, int y) throws IllegalArgumentException {
        if (!isPlace(x, y)) {
            throw new IllegalArgumentException("no such place");
        }
        for (int k = shapeTotal - 1; k >= 0; k--) {
            if (shapes[sequence[k]].has(x, y)) {
                return sequence[k];
            }
        }
        return NONE;
    }

    public int needle(int i, int f) throws IndexOutOfBoundsException, IllegalArgumentException {
        if (i < 0 || i > path.size) {
            throw new IndexOutOfBoundsException("not so many records");
        }
        if (f != 0 && f != 1) {
            throw new IllegalArgumentException("no such field of a place");
        }
        int at = 0;
        for (int k = 0; k < i; k++) {
            at += f == 0 ? path.dx(k) : path.dy(k);
        }
        return at;
    }

    public boolean hoop(int w, int h) {
        return path.fits(w, h);
    }

    public int stop(int i) {
        if (i < 0) {
            return NONE;
        }
        for (int k = i; k < path.size; k++) {
            if (path.kind(k) == KIND_STOP) {
                return k;
            }
        }
        return NONE;
    }

    private static boolean isBelow(int number, int bound) {
        return number >= 0 && number < bound;
    }

    private static boolean isPlace(int x, int y) {
        return x >= 0 && x <= GREATEST && y >= 0 && y <= GREATEST;
    }

    /** Where piece k of a way that is cut in so many pieces ends, down. */
    private static int along(int from, int to, int k, int pieces) {
        return pieces < 1 ? from : from + Math.floorDiv(k * (to - from), pieces);
    }

    private int firstWrongGroup() {
        for (int i = 0; i < loadedTotal; i += BYTES_OF_RECORD) {
            if (i + BYTES_OF_RECORD > loadedTotal || !Path.isRecord(groupAt(i))) {
                return i;
            }
        }
        return NONE;
    }

    private int groupAt(int i) {
        if (i < 0 || i + BYTES_OF_RECORD > MOST_BYTES) {
            return 0;
        }
        return (loaded[i] << 16) | (loaded[i + 1] << 8) | loaded[i + 2];
    }

    /** A row of corners: a ring, closed, or a rail. */
    private static final class Ring {
        private static final int AWAY = 0;
        private static final int INSIDE = 1;
        private static final int ON_EDGE = 2;

        private final int[] xs;
        private final int[] ys;
        private int size;

        private Ring(int room) {
            xs = new int[room];
            ys = new int[room];
        }

        private void clear() {
            size = 0;
        }

        private void add(int x, int y) {
            if (size < xs.length) {
                xs[size] = x;
                ys[size] = y;
                size++;
            }
        }

        private int next(int i) {
            return i + 1 < size ? i + 1 : 0;
        }

        private boolean isFlat() {
            // Every pair is looked at: a corner that is told twice turns with none of its neighbours.
            for (int i = 1; i < size; i++) {
                for (int j = i + 1; j < size; j++) {
                    int turn = (xs[i] - xs[0]) * (ys[j] - ys[0]) - (ys[i] - ys[0]) * (xs[j] - xs[0]);
                    if (turn != 0) {
                        return false;
                    }
                }
            }
            return true;
        }

        private int sideOf(int x, int y) {
            boolean odd = false;
            for (int i = 0; i < size; i++) {
                int j = i + 1 < size ? i + 1 : 0;
                int x1 = xs[i];
                int y1 = ys[i];
                int x2 = xs[j];
                int y2 = ys[j];
                int turn = (x2 - x1) * (y - y1) - (x - x1) * (y2 - y1);
                if (turn == 0 && (x - x1) * (x - x2) <= 0 && (y - y1) * (y - y2) <= 0) {
                    return ON_EDGE;
                }
                boolean right = y2 > y1 ? turn > 0 : turn < 0;
                if ((y1 > y) != (y2 > y) && right) {
                    odd = !odd;
                }
            }
            return odd ? INSIDE : AWAY;
        }
    }

    /** A shape, with its box and the tally of its runs once it is finished. */
    private static final class Shape {
        private final Ring[] rings;
        private final Ring[] rails;
        private final Tally tally;
        private int colour;
        private int fill;
        private int spacing;
        private int direction;
        private int left;
        private int top;
        private int right;
        private int bottom;

        private Shape() {
            rings = new Ring[RINGS];
            rails = new Ring[RAILS];
            // Ring 0 also takes the corners of both rails, so that a satin shape has places as others have.
            rings[0] = new Ring(RAILS * MOST_RAIL_CORNERS);
            for (int r = 1; r < RINGS; r++) {
                rings[r] = new Ring(MOST_CORNERS);
            }
            for (int r = 0; r < RAILS; r++) {
                rails[r] = new Ring(MOST_RAIL_CORNERS);
            }
            tally = new Tally();
            spacing = LEAST_SPACING;
        }

        private void reset(int newColour, int newFill, int newSpacing, int newDirection) {
            colour = newColour;
            fill = newFill;
            spacing = newSpacing;
            direction = newDirection;
            for (int r = 0; r < RINGS; r++) {
                rings[r].clear();
            }
            for (int r = 0; r < RAILS; r++) {
                rails[r].clear();
            }
            tally.clear();
        }

        private void finish() {
            if (fill == SATIN) {
                joinRails();
            }
            measure();
        }

        private void joinRails() {
            Ring ring = rings[0];
            for (int i = 0; i < rails[0].size; i++) {
                ring.add(rails[0].xs[i], rails[0].ys[i]);
            }
            for (int i = rails[1].size - 1; i >= 0; i--) {
                ring.add(rails[1].xs[i], rails[1].ys[i]);
            }
        }

        private void measure() {
            left = GREATEST;
            top = GREATEST;
            right = 0;
            bottom = 0;
            for (int r = 0; r < RINGS; r++) {
                Ring ring = rings[r];
                for (int i = 0; i < ring.size; i++) {
                    left = Math.min(left, ring.xs[i]);
                    top = Math.min(top, ring.ys[i]);
                    right = Math.max(right, ring.xs[i]);
                    bottom = Math.max(bottom, ring.ys[i]);
                }
            }
        }

        private boolean has(int x, int y) {
            if (x < left || x > right || y < top || y > bottom) {
                return false;
            }
            boolean odd = false;
            for (int r = 0; r < RINGS; r++) {
                int side = rings[r].sideOf(x, y);
                if (side == Ring.ON_EDGE) {
                    return true;
                }
                odd = odd != (side == Ring.INSIDE);
            }
            return odd;
        }

        private boolean meets(Shape mate) {
            return left <= mate.right && mate.left <= right && top <= mate.bottom && mate.top <= bottom;
        }
    }

    /** Looks a told shape over, and keeps what it found at the latest one. */
    private static final class Inspector {
        private final int[] x1 = new int[MOST_EDGES];
        private final int[] y1 = new int[MOST_EDGES];
        private final int[] x2 = new int[MOST_EDGES];
        private final int[] y2 = new int[MOST_EDGES];
        private final int[] follower = new int[MOST_EDGES];
        private int edgeTotal;
        private int found;
        private int lesser = NONE;
        private int other = NONE;

        private int inspect(Shape shape) {
            lesser = NONE;
            other = NONE;
            found = shape.fill == SATIN ? faultOfRails(shape) : faultOfRings(shape);
            return found;
        }

        private int faultOfRails(Shape shape) {
            int corners = shape.rails[0].size;
            return corners < 2 || corners != shape.rails[1].size ? FLAT : 0;
        }

        private int faultOfRings(Shape shape) {
            if (hasFlatRing(shape)) {
                return FLAT;
            }
            gatherEdges(shape);
            if (findCrossing()) {
                return CROSSED;
            }
            if (hasHoleOutside(shape)) {
                return OUTSIDE;
            }
            return hasHoleWithin(shape) ? WITHIN : 0;
        }

        private boolean hasFlatRing(Shape shape) {
            for (int r = 0; r < RINGS; r++) {
                Ring ring = shape.rings[r];
                boolean told = r == 0 || ring.size > 0;
                if (told && ring.isFlat()) {
                    return true;
                }
            }
            return false;
        }

        private void gatherEdges(Shape shape) {
            edgeTotal = 0;
            for (int r = 0; r < RINGS; r++) {
                Ring ring = shape.rings[r];
                int base = edgeTotal;
                for (int i = 0; i < ring.size && edgeTotal < MOST_EDGES; i++) {
                    int j = ring.next(i);
                    x1[edgeTotal] = ring.xs[i];
                    y1[edgeTotal] = ring.ys[i];
                    x2[edgeTotal] = ring.xs[j];
                    y2[edgeTotal] = ring.ys[j];
                    follower[edgeTotal] = base + j;
                    edgeTotal++;
                }
            }
        }

        private boolean findCrossing() {
            for (int i = 0; i < edgeTotal; i++) {
                for (int j = i + 1; j < edgeTotal; j++) {
                    if (areCrossed(i, j)) {
                        lesser = i;
                        other = j;
                        return true;
                    }
                }
            }
            return false;
        }

        private boolean areCrossed(int i, int j) {
            if (follower[i] == j) {
                return turnsBack(i, j);
            }
            if (follower[j] == i) {
                return turnsBack(j, i);
            }
            return sharePoint(i, j);
        }

        /** Whether an edge and the one that follows it share more than the corner between them. */
        private boolean turnsBack(int i, int next) {
            int backX = x1[i] - x2[i];
            int backY = y1[i] - y2[i];
            int onX = x2[next] - x1[next];
            int onY = y2[next] - y1[next];
            return backX * onY == backY * onX && backX * onX + backY * onY > 0;
        }

        private boolean sharePoint(int i, int j) {
            boolean apartX = Math.max(x1[i], x2[i]) < Math.min(x1[j], x2[j])
                    || Math.max(x1[j], x2[j]) < Math.min(x1[i], x2[i]);
            boolean apartY = Math.max(y1[i], y2[i]) < Math.min(y1[j], y2[j])
                    || Math.max(y1[j], y2[j]) < Math.min(y1[i], y2[i]);
            if (apartX || apartY) {
                return false;
            }
            // Signs alone are multiplied: the turns themselves would leave an int.
            return turn(i, x1[j], y1[j]) * turn(i, x2[j], y2[j]) <= 0
                    && turn(j, x1[i], y1[i]) * turn(j, x2[i], y2[i]) <= 0;
        }

        private int turn(int i, int x, int y) {
            return Integer.signum((x2[i] - x1[i]) * (y - y1[i]) - (x - x1[i]) * (y2[i] - y1[i]));
        }

        private boolean hasHoleOutside(Shape shape) {
            for (int r = 1; r < RINGS; r++) {
                Ring hole = shape.rings[r];
                if (hole.size > 0 && !beginsInside(hole, shape.rings[0])) {
                    return true;
                }
            }
            return false;
        }

        private boolean hasHoleWithin(Shape shape) {
            for (int r = 1; r < RINGS; r++) {
                Ring hole = shape.rings[r];
                for (int s = 1; s < RINGS; s++) {
                    if (r != s && hole.size > 0 && beginsInside(hole, shape.rings[s])) {
                        return true;
                    }
                }
            }
            return false;
        }

        private static boolean beginsInside(Ring hole, Ring ring) {
            return ring.sideOf(hole.xs[0], hole.ys[0]) == Ring.INSIDE;
        }
    }

    /** Takes the runs of a shape, place by place. */
    private interface RunTaker {
        void beginRun();

        void take(int x, int y);
    }

    /** Counts runs and their places. */
    private static final class Tally implements RunTaker {
        private int runs;
        private int places;

        private void clear() {
            runs = 0;
            places = 0;
        }

        public void beginRun() {
            runs++;
        }

        public void take(int x, int y) {
            places++;
        }
    }

    /** Tells the runs of a shape to one who takes them. */
    private static final class RunTeller {
        private final HatchLine line = new HatchLine();

        private void tell(Shape shape, RunTaker taker) {
            if (shape.fill == HATCH) {
                tellHatch(shape, taker);
            } else if (shape.fill == SATIN) {
                tellSatin(shape, taker);
            } else {
                tellOutline(shape, taker);
            }
        }

        private void tellOutline(Shape shape, RunTaker taker) {
            for (int r = 0; r < RINGS; r++) {
                Ring ring = shape.rings[r];
                if (ring.size == 0) {
                    continue;
                }
                taker.beginRun();
                for (int i = 0; i < ring.size; i++) {
                    taker.take(ring.xs[i], ring.ys[i]);
                }
                taker.take(ring.xs[0], ring.ys[0]);
            }
        }

        private void tellSatin(Shape shape, RunTaker taker) {
            Ring one = shape.rails[0];
            Ring two = shape.rails[1];
            int corners = Math.min(one.size, two.size);
            if (corners == 0) {
                return;
            }
            taker.beginRun();
            for (int i = 0; i + 1 < corners; i++) {
                int far = Math.max(reach(one, i), reach(two, i));
                int pieces = Math.max(1, (far + shape.spacing - 1) / shape.spacing);
                for (int k = 0; k < pieces; k++) {
                    taker.take(pointOf(one.xs, i, k, pieces), pointOf(one.ys, i, k, pieces));
                    taker.take(pointOf(two.xs, i, k, pieces), pointOf(two.ys, i, k, pieces));
                }
            }
            taker.take(one.xs[corners - 1], one.ys[corners - 1]);
            taker.take(two.xs[corners - 1], two.ys[corners - 1]);
        }

        private static int reach(Ring rail, int i) {
            return Math.max(Math.abs(rail.xs[i + 1] - rail.xs[i]), Math.abs(rail.ys[i + 1] - rail.ys[i]));
        }

        private static int pointOf(int[] row, int i, int k, int pieces) {
            return along(row[i], row[i + 1], k, pieces);
        }

        private void tellHatch(Shape shape, RunTaker taker) {
            int firstRow = -Math.floorDiv(-leastF(shape), shape.spacing);
            int lastRow = Math.floorDiv(greatestF(shape), shape.spacing);
            for (int row = firstRow; row <= lastRow; row++) {
                line.lay(shape, row * shape.spacing);
                boolean rising = (row & 1) == 0;
                for (int k = 0; k < line.partTotal; k++) {
                    int part = rising ? k : line.partTotal - 1 - k;
                    int from = rising ? line.starts[part] : line.ends[part];
                    int to = rising ? line.ends[part] : line.starts[part];
                    taker.beginRun();
                    taker.take(line.xAt(from), line.yAt(from));
                    taker.take(line.xAt(to), line.yAt(to));
                }
            }
        }

        private static int leastF(Shape shape) {
            switch (shape.direction) {
                case 0:
                    return shape.top;
                case 1:
                    return shape.left;
                case 2:
                    return shape.left + shape.top;
                default:
                    return shape.top - shape.right;
            }
        }

        private static int greatestF(Shape shape) {
            switch (shape.direction) {
                case 0:
                    return shape.bottom;
                case 1:
                    return shape.right;
                case 2:
                    return shape.right + shape.bottom;
                default:
                    return shape.bottom - shape.left;
            }
        }
    }

    /**
     * One line of a hatch. Each edge is on some places of the line, and to the right of some: both are one span
     * of p. So the ends of these spans, sorted, tell the parts, and no place has to be asked by itself.
     */
    private static final class HatchLine {
        private static final int[] X_STEPS = {1, 0, 1, 1};
        private static final int[] Y_STEPS = {0, 1, -1, 1};
        private static final int EVENTS = 3;
        private static final int FLIP = 0;
        private static final int EDGE_BEGINS = 1;
        private static final int EDGE_ENDS = 2;

        private final int[] events = new int[4 * MOST_EDGES];
        private final int[] starts = new int[2 * MOST_EDGES];
        private final int[] ends = new int[2 * MOST_EDGES];
        private int eventTotal;
        private int partTotal;
        private int xStep;
        private int xBase;
        private int yStep;
        private int yBase;
        private int first;
        private int last;
        private int low;
        private int high;

        private int xAt(int p) {
            return xStep * p + xBase;
        }

        private int yAt(int p) {
            return yStep * p + yBase;
        }

        private void lay(Shape shape, int f) {
            aim(shape.direction, f);
            low = 0;
            high = GREATEST;
            narrow(xStep, xBase, shape.left, shape.right);
            narrow(yStep, yBase, shape.top, shape.bottom);
            first = low;
            last = high;
            eventTotal = 0;
            for (int r = 0; r < RINGS; r++) {
                Ring ring = shape.rings[r];
                for (int i = 0; i < ring.size; i++) {
                    int j = ring.next(i);
                    addEdge(ring.xs[i], ring.ys[i], ring.xs[j], ring.ys[j]);
                }
            }
            gatherParts();
        }

        private void aim(int direction, int f) {
            xStep = X_STEPS[direction];
            yStep = Y_STEPS[direction];
            xBase = xStep == 0 ? f : 0;
            yBase = xStep == 0 ? 0 : f;
        }

        private void addEdge(int x1, int y1, int x2, int y2) {
            // By p the turn at the edge is slope * p + base: 0 on the edge's line, of one sign at each side.
            int slope = (x2 - x1) * yStep - (y2 - y1) * xStep;
            int base = (x2 - x1) * (yBase - y1) - (y2 - y1) * (xBase - x1);
            int leastY = Math.min(y1, y2);
            int greatestY = Math.max(y1, y2);
            low = first;
            high = last;
            narrow(xStep, xBase, Math.min(x1, x2), Math.max(x1, x2));
            narrow(yStep, yBase, leastY, greatestY);
            narrowToZero(slope, base);
            addSpan(EDGE_BEGINS, EDGE_ENDS);
            low = first;
            high = last;
            narrow(yStep, yBase, leastY, greatestY - 1);
            if (y2 > y1) {
                narrowToAboveZero(slope, base);
            } else {
                narrowToAboveZero(-slope, -base);
            }
            addSpan(FLIP, FLIP);
        }

        private void narrow(int step, int base, int least, int greatest) {
            if (step == 0) {
                if (base < least || base > greatest) {
                    empty();
                }
            } else if (step > 0) {
                low = Math.max(low, least - base);
                high = Math.min(high, greatest - base);
            } else {
                low = Math.max(low, base - greatest);
                high = Math.min(high, base - least);
            }
        }

        private void narrowToZero(int slope, int base) {
            if (slope == 0) {
                if (base != 0) {
                    empty();
                }
            } else if (base % slope != 0) {
                empty();
            } else {
                low = Math.max(low, -base / slope);
                high = Math.min(high, -base / slope);
            }
        }

        private void narrowToAboveZero(int slope, int base) {
            if (slope > 0) {
                low = Math.max(low, Math.floorDiv(-base, slope) + 1);
            } else if (slope < 0) {
                high = Math.min(high, Math.floorDiv(base - 1, -slope));
            } else if (base <= 0) {
                empty();
            }
        }

        private void empty() {
            // Later narrowing can only raise low and lower high, so that the span stays empty.
            low = GREATEST + 1;
            high = NONE;
        }

        private void addSpan(int beginning, int ending) {
            if (low <= high) {
                insert(low * EVENTS + beginning);
                insert((high + 1) * EVENTS + ending);
            }
        }

        private void insert(int event) {
            if (eventTotal >= events.length) {
                return;
            }
            int i = eventTotal;
            for (; i > 0 && events[i - 1] > event; i--) {
                events[i] = events[i - 1];
            }
            events[i] = event;
            eventTotal++;
        }

        private void gatherParts() {
            partTotal = 0;
            int edges = 0;
            int start = NONE;
            boolean odd = false;
            for (int i = 0; i < eventTotal; i++) {
                int p = events[i] / EVENTS;
                int event = events[i] % EVENTS;
                if (event == FLIP) {
                    odd = !odd;
                } else {
                    edges += event == EDGE_BEGINS ? 1 : -1;
                }
                if (i + 1 < eventTotal && events[i + 1] / EVENTS == p) {
                    continue;
                }
                boolean within = odd || edges > 0;
                if (within && start == NONE) {
                    start = p;
                } else if (!within && start != NONE) {
                    addPart(start, p - 1);
                    start = NONE;
                }
            }
        }

        private void addPart(int from, int to) {
            if (to > from && partTotal < starts.length) {
                starts[partTotal] = from;
                ends[partTotal] = to;
                partTotal++;
            }
        }
    }

    /** The records, each in one int: its kind, dy and dx above one another. */
    private static final class Path {
        private static final int SHIFT = 128;
        private static final int DIGITS = 5;
        private static final int LARGEST_NUMBER = 121;
        private static final int LOW_BIT_OF_EACH_DIGIT = 0x55555;

        private final int[] codes = new int[MOST_RECORDS];
        private int size;
        private boolean overfull;

        private void clear() {
            size = 0;
            overfull = false;
        }

        private void add(int dx, int dy, int kind) {
            if (size >= MOST_RECORDS) {
                overfull = true;
                return;
            }
            codes[size] = (kind << 16) | ((dy + SHIFT) << 8) | (dx + SHIFT);
            size++;
        }

        private int dx(int i) {
            return (codes[i] & 255) - SHIFT;
        }

        private int dy(int i) {
            return ((codes[i] >> 8) & 255) - SHIFT;
        }

        private int kind(int i) {
            return codes[i] >> 16;
        }

        private int packed(int i) {
            return (kind(i) << 20) | (digitsOf(dy(i)) << 10) | digitsOf(dx(i));
        }

        private void addPacked(int bits) {
            add(numberOf(bits & 1023), numberOf((bits >> 10) & 1023), (bits >> 20) & 3);
        }

        private static boolean isRecord(int bits) {
            boolean threes = (bits & (bits >> 1) & LOW_BIT_OF_EACH_DIGIT) != 0;
            return !threes && bits >> 22 == 0;
        }

        private static int digitsOf(int number) {
            // Each plain digit to the base 3 is one too great with the largest number added.
            int rest = number + LARGEST_NUMBER;
            int bits = 0;
            for (int k = 0; k < DIGITS; k++) {
                int digit = (rest % 3 + 2) % 3;
                bits |= digit << (2 * k);
                rest /= 3;
            }
            return bits;
        }

        private static int numberOf(int bits) {
            int number = 0;
            for (int k = DIGITS - 1; k >= 0; k--) {
                int digit = (bits >> (2 * k)) & 3;
                number = number * 3 + (digit == 2 ? -1 : digit);
            }
            return number;
        }

        private int threadBehind(int stops) {
            int passed = 0;
            int total = 0;
            for (int i = 0; i < size; i++) {
                if (kind(i) == KIND_STOP) {
                    passed++;
                } else if (kind(i) == KIND_STITCH && passed == stops) {
                    total += rootUp(dx(i), dy(i));
                }
            }
            return total;
        }

        private static int rootUp(int dx, int dy) {
            int square = dx * dx + dy * dy;
            int bound = Math.abs(dx) + Math.abs(dy);
            for (int root = Math.max(Math.abs(dx), Math.abs(dy)); root < bound; root++) {
                if (root * root >= square) {
                    return root;
                }
            }
            return bound;
        }

        private boolean fits(int w, int h) {
            int x = 0;
            int y = 0;
            int left = 0;
            int right = 0;
            int top = 0;
            int bottom = 0;
            for (int i = 0; i < size; i++) {
                x += dx(i);
                y += dy(i);
                left = Math.min(left, x);
                right = Math.max(right, x);
                top = Math.min(top, y);
                bottom = Math.max(bottom, y);
            }
            return right - left <= w && bottom - top <= h;
        }
    }

    /** Leads the needle through the runs it takes, and adds the records to the path. */
    private static final class PathMaker implements RunTaker {
        private static final int LONGEST_STEP = 70;
        private static final int LONGEST_UNTRIMMED = 300;

        private final Path path = new Path();
        private Shape shape;
        private int x;
        private int y;
        private int threaded;
        private boolean entering;
        private boolean atRunStart;

        private void restart() {
            path.clear();
            x = 0;
            y = 0;
            threaded = NONE;
        }

        private void enter(Shape next) {
            shape = next;
            entering = true;
        }

        public void beginRun() {
            atRunStart = true;
        }

        public void take(int toX, int toY) {
            if (shape == null || path.overfull) {
                return;
            }
            if (!atRunStart) {
                move(toX, toY, KIND_STITCH);
            } else if (entering) {
                changeThread();
                leap(toX, toY);
            } else if (staysInShape(toX, toY)) {
                move(toX, toY, KIND_STITCH);
            } else {
                leap(toX, toY);
            }
            atRunStart = false;
            entering = false;
        }

        private void changeThread() {
            if (threaded != NONE && threaded != shape.colour) {
                path.add(0, 0, KIND_STOP);
            }
            threaded = shape.colour;
        }

        private void leap(int toX, int toY) {
            if (Math.max(Math.abs(toX - x), Math.abs(toY - y)) > LONGEST_UNTRIMMED) {
                path.add(0, 0, KIND_TRIM);
            }
            move(toX, toY, KIND_JUMP);
        }

        private void move(int toX, int toY, int kind) {
            int fromX = x;
            int fromY = y;
            int steps = stepsTo(toX, toY);
            for (int k = 1; k <= steps; k++) {
                int stepX = along(fromX, toX, k, steps);
                int stepY = along(fromY, toY, k, steps);
                path.add(stepX - x, stepY - y, kind);
                x = stepX;
                y = stepY;
            }
        }

        private boolean staysInShape(int toX, int toY) {
            int steps = stepsTo(toX, toY);
            for (int k = 1; k <= steps; k++) {
                if (!shape.has(along(x, toX, k, steps), along(y, toY, k, steps))) {
                    return false;
                }
            }
            return true;
        }

        private int stepsTo(int toX, int toY) {
            int far = Math.max(Math.abs(toX - x), Math.abs(toY - y));
            return (far + LONGEST_STEP - 1) / LONGEST_STEP;
        }
    }

    /**
     * Finds the order with the fewest changes of colour. Sets are bits, one for each place in the order now. For
     * each set that may be done first it knows how many changes the rest needs at least, and from which colours
     * on; from any other colour on the rest needs just one more, as its first shape may change.
     */
    private static final class Planner {
        private static final int ALL_COLOURS = (1 << COLOURS) - 1;

        private final int[] fewest = new int[1 << MOST_SHAPES];
        private final int[] friendly = new int[1 << MOST_SHAPES];
        private final int[] ahead = new int[MOST_SHAPES];
        private final int[] colours = new int[MOST_SHAPES];
        private final int[] planned = new int[MOST_SHAPES];
        private int total;

        private int plan(Shape[] shapes, int[] sequence, int shapeTotal) {
            total = Math.min(shapeTotal, MOST_SHAPES);
            gather(shapes, sequence);
            weighSets();
            choose(sequence);
            for (int k = 0; k < total; k++) {
                sequence[k] = planned[k];
            }
            return fewest[0];
        }

        private void gather(Shape[] shapes, int[] sequence) {
            for (int k = 0; k < total; k++) {
                Shape shape = shapes[sequence[k]];
                colours[k] = shape.colour;
                ahead[k] = 0;
                for (int j = 0; j < k; j++) {
                    if (shape.meets(shapes[sequence[j]])) {
                        ahead[k] |= 1 << j;
                    }
                }
            }
        }

        private void weighSets() {
            int all = (1 << total) - 1;
            fewest[all] = 0;
            friendly[all] = ALL_COLOURS;
            for (int done = all - 1; done >= 0; done--) {
                fewest[done] = MOST_SHAPES;
                for (int k = 0; k < total; k++) {
                    if (mayFollow(done, k)) {
                        weigh(done, colours[k], changesAfter(done | (1 << k), colours[k]));
                    }
                }
            }
        }

        private void weigh(int done, int colour, int changes) {
            if (changes < fewest[done]) {
                fewest[done] = changes;
                friendly[done] = 0;
            }
            if (changes == fewest[done]) {
                friendly[done] |= 1 << colour;
            }
        }

        private boolean mayFollow(int done, int k) {
            return ((done >> k) & 1) == 0 && (ahead[k] & ~done) == 0;
        }

        private int changesAfter(int done, int colour) {
            return fewest[done] + (((friendly[done] >> colour) & 1) == 0 ? 1 : 0);
        }

        private void choose(int[] sequence) {
            int done = 0;
            int rest = fewest[0];
            int colour = NONE;
            for (int place = 0; place < total; place++) {
                for (int k = 0; k < total; k++) {
                    int change = colour == NONE || colour == colours[k] ? 0 : 1;
                    if (mayFollow(done, k) && change + changesAfter(done | (1 << k), colours[k]) == rest) {
                        planned[place] = sequence[k];
                        done |= 1 << k;
                        rest -= change;
                        colour = colours[k];
                        break;
                    }
                }
            }
        }
    }
}
