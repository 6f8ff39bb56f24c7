/** The edges that 'Terms' names of the path and of packed records: a test for each sentence. */
public final class PathEdgeTest {
    private final Due due = new Due();

    public static void main(String[] args) {
        PathEdgeTest test = new PathEdgeTest();
        test.needleAtFirst();
        test.stepsOfMove();
        test.endsOfSteps();
        test.noSteps();
        test.leaps();
        test.leapsInShape();
        test.order();
        test.withoutRuns();
        test.stops();
        test.leapToFirstPlace();
        test.stitchesInRun();
        test.betweenRuns();
        test.betweenRunsByEnds();
        test.trimsAndStopsRest();
        test.byteOrder();
        test.digits();
        test.highBits();
        test.noDigit();
        test.due.finish();
    }

    private StitchDesk hatched(int spacing, int direction, int[]... rings) {
        StitchDesk desk = new StitchDesk();
        due.is("a hatched shape", Told.hatch(desk, 0, spacing, direction, rings), 0);
        return desk;
    }

    private void needleAtFirst() {
        due.of("Terms", "The needle is at (0, 0) at first");
        StitchDesk desk = new StitchDesk();
        Told.outline(desk, 0, new int[] {10, 5, 30, 5, 30, 25});
        int[] want = {10, 5, 1, 20, 0, 0, 0, 20, 0, -20, -20, 0};
        due.isPath("from (0, 0)", desk, want);
        due.isPath("from (0, 0) again", desk, want);
        Told.loadGroup(desk, 1);
        due.is("another path", desk.decode(), 1);
        due.isPath("from (0, 0) behind another path", desk, want);
    }

    private void stepsOfMove() {
        due.of("Terms", "n is the greater of how far it goes in x and in y, divided by 70, up");
        int[][] cases = {{1, 1}, {69, 1}, {70, 1}, {71, 2}, {140, 2}, {141, 3}, {210, 3}, {211, 4}, {560, 8},
            {561, 9}, {600, 9}};
        for (int[] c : cases) {
            StitchDesk wide = new StitchDesk();
            Told.outline(wide, 0, new int[] {0, 0, c[0], 0, 0, 1});
            due.is("steps of " + c[0] + " in x, and back", wide.stitch(), 2 * c[1] + 1);
            StitchDesk high = new StitchDesk();
            Told.outline(high, 0, new int[] {0, 0, 0, c[0], 1, 0});
            due.is("steps of " + c[0] + " in y, and back", high.stitch(), 2 * c[1] + 1);
            StitchDesk jumped = new StitchDesk();
            Told.outline(jumped, 0, new int[] {c[0], 0, c[0], 1, c[0] - 1, 0});
            due.is("jumps of " + c[0], jumped.stitch(), c[1] + (c[0] > 300 ? 1 : 0) + 3);
        }
    }

    private void endsOfSteps() {
        due.of("Terms", "step k of n (1 .. n) ends at the beginning and k times dx, and dy, divided by n, down");
        StitchDesk rising = new StitchDesk();
        Told.outline(rising, 0, new int[] {0, 0, 150, 71, 0, 71});
        due.isPath("rising steps", rising, 50, 23, 0, 50, 24, 0, 50, 24, 0, -50, 0, 0, -50, 0, 0, -50, 0, 0,
                0, -36, 0, 0, -35, 0);
        StitchDesk falling = new StitchDesk();
        Told.outline(falling, 0, new int[] {0, 0, 0, 71, 150, 71});
        due.isPath("falling steps", falling, 0, 35, 0, 0, 36, 0, 50, 0, 0, 50, 0, 0, 50, 0, 0,
                -50, -24, 0, -50, -24, 0, -50, -23, 0);
        StitchDesk across = new StitchDesk();
        Told.outline(across, 0, new int[] {71, 1, 0, 80, 0, 1});
        due.isPath("jumps likewise", across, 35, 0, 1, 36, 1, 1, -36, 39, 0, -35, 40, 0, 0, -40, 0, 0, -39, 0,
                35, 0, 0, 36, 0, 0);
    }

    private void noSteps() {
        due.of("Terms", "(By (0, 0) there are no steps.)");
        StitchDesk desk = new StitchDesk();
        Told.outline(desk, 0, new int[] {0, 0, 9, 0, 0, 9});
        due.isPath("a leap to where the needle is", desk, 9, 0, 0, -9, 9, 0, 0, -9, 0);
        Told.outline(desk, 0, new int[] {0, 0, 5, 0, 0, 5});
        due.isPath("a leap from shape to shape", desk, 9, 0, 0, -9, 9, 0, 0, -9, 0, 5, 0, 0, -5, 5, 0, 0, -5, 0);
        StitchDesk point = new StitchDesk();
        Told.satin(point, 0, 10, new int[] {5, 5, 5, 5, 9, 5}, new int[] {5, 5, 5, 5, 9, 5});
        due.isPath("stitches from a place to itself", point, 5, 5, 1, 4, 0, 0);
        StitchDesk nothing = new StitchDesk();
        Told.satin(nothing, 0, 10, new int[] {0, 0, 0, 0}, new int[] {0, 0, 0, 0});
        due.isPath("a whole shape in one place", nothing);
    }

    /** A small outline at (x, y), then one at (toX, toY): the kinds of the records between them. */
    private void dueLeap(int x, int y, int toX, int toY, boolean trimmed, int jumps) {
        StitchDesk desk = new StitchDesk();
        Told.outline(desk, 0, new int[] {x, y, x + 1, y, x, y + 1});
        int before = desk.stitch();
        Told.outline(desk, 0, new int[] {toX, toY, toX + 1, toY, toX, toY + 1});
        String what = "leap by (" + (toX - x) + ", " + (toY - y) + ")";
        due.is(what + ": records", desk.stitch(), before + (trimmed ? 1 : 0) + jumps + 3);
        due.is(what + ": the first kind", desk.record(before, 2), trimmed ? 2 : 1);
        int[] want = new int[jumps];
        int[] got = new int[jumps];
        for (int k = 0; k < jumps; k++) {
            want[k] = 1;
            got[k] = desk.record(before + (trimmed ? 1 : 0) + k, 2);
        }
        due.isRow(what + ": kinds", got, want);
    }

    private void leaps() {
        due.of("Terms", "A LEAP is a move of jumps, behind a trim if it goes further than 300 in x or in y.");
        for (int other : new int[] {0, 50, -50, 299, -299}) {
            dueLeap(299, 299, 299 + 300, 299 + other, false, 5);
            dueLeap(300, 300, 0, 300 + other, false, 5);
            dueLeap(299, 299, 299 + other, 299 + 300, false, 5);
            dueLeap(300, 300, 300 + other, 0, false, 5);
        }
        dueLeap(299, 299, 599, 599, false, 5);
        dueLeap(300, 300, 0, 0, false, 5);
        for (int other : new int[] {0, 50, -50, 298, -298}) {
            dueLeap(298, 298, 298 + 301, 298 + other, true, 5);
            dueLeap(301, 301, 0, 301 + other, true, 5);
            dueLeap(298, 298, 298 + other, 298 + 301, true, 5);
            dueLeap(301, 301, 301 + other, 0, true, 5);
        }
        dueLeap(0, 0, 599, 599, true, 9);
        dueLeap(599, 599, 0, 0, true, 9);
    }

    private void leapsInShape() {
        due.of("Terms", "A LEAP is a move of jumps, behind a trim if it goes further than 300 in x or in y.");
        int[] near = Told.records(stitched(hatched(20, 0, Told.box(0, 15, 360, 25), Told.box(20, 18, 320, 22))));
        int[] far = Told.records(stitched(hatched(20, 0, Told.box(0, 15, 360, 25), Told.box(20, 18, 321, 22))));
        // Six jumps behind a trim to (360, 20), one stitch to the hole, then over it.
        due.is("over 300: records", near.length / 3, 7 + 1 + 5 + 1);
        due.is("over 300: a jump", near[3 * 8 + 2], 1);
        due.is("over 301: records", far.length / 3, 7 + 1 + 6 + 1);
        due.is("over 301: a trim", far[3 * 8 + 2], 2);
        due.is("over 301: a jump", far[3 * 9 + 2], 1);
    }

    private static StitchDesk stitched(StitchDesk desk) {
        desk.stitch();
        return desk;
    }

    private void order() {
        due.of("Terms", "The shapes come in their ORDER (at first as they were told).");
        StitchDesk desk = new StitchDesk();
        Told.outline(desk, 1, new int[] {0, 0, 9, 0, 0, 9});
        Told.outline(desk, 2, new int[] {20, 0, 29, 0, 20, 9});
        Told.outline(desk, 1, new int[] {40, 0, 49, 0, 40, 9});
        due.isWay("as they were told", desk, 9, 0, 0, 9, 0, 0, 0, 0, 20, 0, 29, 0, 20, 9, 20, 0, 20, 0, 40, 0, 49, 0,
                40, 9, 40, 0);
        due.is("reorder()", desk.reorder(), 1);
        due.isWay("in another order", desk, 9, 0, 0, 9, 0, 0, 40, 0, 49, 0, 40, 9, 40, 0, 40, 0, 20, 0, 29, 0, 20, 9,
                20, 0);
    }

    private void withoutRuns() {
        due.of("Terms", "A shape without runs does nothing.");
        StitchDesk desk = new StitchDesk();
        int[] small = {0, 0, 9, 0, 0, 9};
        Told.hatch(desk, 3, 20, 0, Told.box(401, 401, 409, 409));
        due.is("no runs", desk.shape(0, 8), 0);
        due.isPath("alone", desk);
        Told.outline(desk, 1, small);
        due.isPath("ahead of another", desk, 9, 0, 0, -9, 9, 0, 0, -9, 0);
        Told.hatch(desk, 3, 20, 0, Told.box(401, 401, 409, 409));
        due.isPath("behind another", desk, 9, 0, 0, -9, 9, 0, 0, -9, 0);
        Told.outline(desk, 1, small);
        due.isPath("between two of one colour", desk, 9, 0, 0, -9, 9, 0, 0, -9, 0, 9, 0, 0, -9, 9, 0, 0, -9, 0);
        Told.hatch(desk, 2, 20, 0, Told.box(401, 401, 409, 409));
        Told.outline(desk, 2, small);
        due.isPath("ahead of its own colour", desk, 9, 0, 0, -9, 9, 0, 0, -9, 0, 9, 0, 0, -9, 9, 0, 0, -9, 0,
                0, 0, 3, 9, 0, 0, -9, 9, 0, 0, -9, 0);
    }

    private void stops() {
        due.of("Terms", "a stop, if the shape with runs before it has another colour");
        int[] small = {0, 0, 9, 0, 0, 9};
        StitchDesk desk = new StitchDesk();
        Told.outline(desk, 7, small);
        due.isPath("none ahead of the first", desk, 9, 0, 0, -9, 9, 0, 0, -9, 0);
        Told.outline(desk, 7, small);
        due.isPath("none between two of one colour", desk, 9, 0, 0, -9, 9, 0, 0, -9, 0, 9, 0, 0, -9, 9, 0, 0, -9, 0);
        StitchDesk back = new StitchDesk();
        for (int colour : new int[] {0, 7, 0, 1}) {
            Told.outline(back, colour, small);
        }
        due.is("three stops", back.stitch(), 3 * 4 + 3);
        for (int k = 0; k < 3; k++) {
            due.is("stop " + k, back.stop(4 * k), 3 + 4 * k);
        }
        StitchDesk point = new StitchDesk();
        Told.satin(point, 0, 10, new int[] {0, 0, 0, 0}, new int[] {0, 0, 0, 0});
        Told.outline(point, 1, small);
        due.isPath("a run without steps is one all the same", point, 0, 0, 3, 9, 0, 0, -9, 9, 0, 0, -9, 0);
        StitchDesk far = new StitchDesk();
        Told.outline(far, 0, small);
        Told.outline(far, 1, new int[] {301, 0, 310, 0, 301, 9});
        far.stitch();
        due.is("the stop comes first", far.record(3, 2), 3);
        due.is("then the trim", far.record(4, 2), 2);
        due.is("then jumps", far.record(5, 2), 1);
    }

    private void leapToFirstPlace() {
        due.of("Terms", "a leap to its first place");
        StitchDesk desk = new StitchDesk();
        Told.outline(desk, 0, new int[] {30, 40, 35, 40, 30, 45});
        Told.hatch(desk, 0, 20, 0, Told.box(50, 35, 60, 45));
        Told.satin(desk, 0, 20, new int[] {90, 20, 95, 20}, new int[] {90, 30, 95, 30});
        due.isPath("to a corner, a part, a rail", desk, 30, 40, 1, 5, 0, 0, -5, 5, 0, 0, -5, 0, 20, 0, 1, 10, 0, 0,
                30, -20, 1, 0, 10, 0, 5, -10, 0, 0, 10, 0);
        // Though the way lies in the shape: between shapes it is a leap.
        StitchDesk over = new StitchDesk();
        Told.outline(over, 0, Told.box(0, 0, 60, 60));
        Told.hatch(over, 0, 20, 1, Told.box(35, 0, 45, 60));
        due.isPath("in both shapes", over, 60, 0, 0, 0, 60, 0, -60, 0, 0, 0, -60, 0, 40, 0, 1, 0, 60, 0);
    }

    private void stitchesInRun() {
        due.of("Terms", "in each run a move of stitches from each place to the next one");
        // Between these rails there is little but places that are not in the shape.
        StitchDesk desk = new StitchDesk();
        Told.satin(desk, 0, 20, new int[] {0, 0, 300, 0}, new int[] {0, 300, 0, 10});
        due.is("under(100, 51)", desk.under(100, 51), -1);
        desk.stitch();
        for (int i = 0; i < desk.count(1); i++) {
            due.is("record(" + i + ", 2)", desk.record(i, 2), 0);
        }
        StitchDesk hatch = hatched(20, 0, Told.box(0, 0, 600, 9));
        due.isPath("600 in one run, and no trim", hatch, 66, 0, 0, 67, 0, 0, 67, 0, 0, 66, 0, 0, 67, 0, 0, 67, 0, 0,
                66, 0, 0, 67, 0, 0, 67, 0, 0);
        StitchDesk outline = new StitchDesk();
        Told.outline(outline, 0, new int[] {0, 0, 140, 0, 140, 70});
        due.isPath("along an outline", outline, 70, 0, 0, 70, 0, 0, 0, 70, 0, -70, -35, 0, -70, -35, 0);
    }

    /** A tip of the hole reaches just to where the first of two steps ends, up, down, to the left and to the right. */
    private void betweenRunsByEnds() {
        due.of("Terms", "from a run's end to the beginning of the next one of the shape a move of stitches "
                + "if all ends of its steps are in the shape, else a leap");
        int[] falling = {100, 18, 171, 18, 171, 22, 136, 22, 135, 20, 134, 22, 100, 22};
        int[] rising = {100, 38, 171, 38, 171, 42, 136, 42, 135, 40, 134, 42, 100, 42};
        dueTip("row 1, to the left", hatched(20, 0, Told.box(0, 15, 210, 25), falling), 0);
        dueTip("column 1, up", hatched(20, 1, Told.box(15, 0, 25, 210), turned(falling)), 0);
        dueTip("row 2, to the right", hatched(20, 0, Told.box(0, 35, 210, 45), rising), 0);
        dueTip("column 2, down", hatched(20, 1, Told.box(35, 0, 45, 210), turned(rising)), 0);
        int[] missed = {100, 18, 171, 18, 171, 22, 137, 22, 136, 20, 135, 22, 100, 22};
        dueTip("row 1, beside the tip", hatched(20, 0, Told.box(0, 15, 210, 25), missed), 1);
        dueTip("column 1, beside the tip", hatched(20, 1, Told.box(15, 0, 25, 210), turned(missed)), 1);
        int[] before = {100, 38, 171, 38, 171, 42, 135, 42, 134, 40, 133, 42, 100, 42};
        dueTip("row 2, ahead of the tip", hatched(20, 0, Told.box(0, 35, 210, 45), before), 1);
        dueTip("column 2, ahead of the tip", hatched(20, 1, Told.box(35, 0, 45, 210), turned(before)), 1);
    }

    private static int[] turned(int[] ring) {
        int[] answer = ring.clone();
        for (int i = 0; i < ring.length; i += 2) {
            answer[i] = ring[i + 1];
            answer[i + 1] = ring[i];
        }
        return answer;
    }

    /** Two parts with two steps from one to the other, of this kind. */
    private void dueTip(String what, StitchDesk desk, int kind) {
        due.is(what + ": parts", desk.shape(0, 8), 2);
        desk.stitch();
        int first = -1;
        for (int i = 0; i < desk.count(1) && first < 0; i++) {
            int far = Math.max(desk.needle(i, 0), desk.needle(i, 1));
            if (i > 0 && desk.record(i - 1, 2) == 0 && (far == 171 || far == 100)) {
                first = i;
            }
        }
        due.is(what + ": the first step", desk.record(first, 2), kind);
        due.is(what + ": the second step", desk.record(first + 1, 2), kind);
        int far = Math.max(desk.needle(first + 1, 0), desk.needle(first + 1, 1));
        due.is(what + ": where the first one ends", far, 135);
    }

    private void betweenRuns() {
        due.of("Terms", "from a run's end to the beginning of the next one of the shape a move of stitches "
                + "if all ends of its steps are in the shape, else a leap");
        due.isWay("over a hole in one step", hatched(20, 0, Told.box(0, 15, 60, 25), Told.box(20, 18, 40, 22)),
                60, 20, 40, 20, 20, 20, 0, 20);
        int[] box = Told.box(0, 15, 140, 25);
        // From (111, 20) to (40, 20): the first step ends at (75, 20).
        StitchDesk out = hatched(20, 0, box, Told.box(40, 18, 111, 22));
        due.isPath("the first of two steps is out", out, 70, 10, 1, 70, 10, 1, -29, 0, 0, -36, 0, 1, -35, 0, 1,
                -40, 0, 0);
        StitchDesk in = hatched(20, 0, box, new int[] {40, 18, 111, 18, 111, 22, 76, 22, 75, 20, 74, 22, 40, 22});
        due.isPath("the first of two steps is on an edge", in, 70, 10, 1, 70, 10, 1, -29, 0, 0, -36, 0, 0, -35, 0, 0,
                -40, 0, 0);
        // The ends are (122, 20) and (81, 20): one is in the shape, one in the hole.
        int[] wide = Told.box(0, 15, 210, 25);
        int[] hole = {40, 18, 164, 18, 164, 22, 123, 22, 122, 20, 121, 22, 40, 22};
        StitchDesk second = hatched(20, 0, wide, hole);
        due.is("three steps, the second is out: parts", second.shape(0, 8), 2);
        second.stitch();
        due.is("three steps, the second is out: kind", second.record(4, 2), 1);
        int[] high = {0, 0, 20, 0, 20, 100, 40, 100, 40, 0, 60, 0, 60, 110, 0, 110};
        StitchDesk bay = hatched(20, 1, high);
        due.is("over a bay in the direction 1", bay.shape(0, 8), 4);
        bay.stitch();
        due.is("columns 20 and 40 lie on edges", bay.count(1), 4 * 2 + 3);
        dueOfOutline();
    }

    /** From corner 0 of the outside to corner 0 of the hole, over a bay or not. */
    private void dueOfOutline() {
        int[] bay = {50, 0, 60, 0, 60, 100, 10, 100, 10, 70, 55, 70, 55, 10, 50, 10};
        StitchDesk out = new StitchDesk();
        due.is("an outline with a bay", Told.outline(out, 0, bay, new int[] {50, 80, 54, 80, 50, 84}), 0);
        out.stitch();
        int last = out.count(1) - 1;
        due.is("over the bay: kind", out.record(last - 3, 2), 1);
        due.is("over the bay: the first step", out.record(last - 4, 2), 1);
        StitchDesk in = new StitchDesk();
        due.is("an outline without", Told.outline(in, 0, Told.box(50, 0, 60, 100), new int[] {54, 80, 56, 80, 54, 84}),
                0);
        in.stitch();
        due.is("in the shape: kind", in.record(in.count(1) - 4, 2), 0);
        due.is("in the shape: the first step", in.record(in.count(1) - 5, 2), 0);
    }

    private void trimsAndStopsRest() {
        due.of("Terms", "Trims and stops have dx and dy 0.");
        StitchDesk desk = new StitchDesk();
        Told.outline(desk, 0, new int[] {590, 590, 599, 590, 590, 599});
        Told.outline(desk, 1, new int[] {0, 0, 9, 0, 0, 9});
        due.isPath("a path of them", desk, 0, 0, 2, 65, 65, 1, 66, 66, 1, 65, 65, 1, 66, 66, 1, 65, 65, 1, 66, 66, 1,
                65, 65, 1, 66, 66, 1, 66, 66, 1, 9, 0, 0, -9, 9, 0, 0, -9, 0,
                0, 0, 3, 0, 0, 2, -66, -66, 1, -66, -66, 1, -65, -65, 1, -66, -66, 1, -65, -65, 1, -66, -66, 1,
                -65, -65, 1, -66, -66, 1, -65, -65, 1, 9, 0, 0, -9, 9, 0, 0, -9, 0);
    }

    private void dueBytes(int dx, int dy, int kind, int... want) {
        StitchDesk desk = Told.tape(dx, dy, kind);
        int[] got = {desk.byteAt(0), desk.byteAt(1), desk.byteAt(2)};
        due.isRow("bytes of (" + dx + ", " + dy + ", " + kind + ")", got, want);
        due.isRow("the record (" + dx + ", " + dy + ", " + kind + ")", Told.records(desk), dx, dy, kind);
    }

    private void byteOrder() {
        due.of("Terms", "its bytes from the highest on: bits 0 to 9 dx, 10 to 19 dy, 20 and 21 its kind");
        dueBytes(1, 0, 0, 0, 0, 1);
        dueBytes(0, 1, 0, 0, 4, 0);
        dueBytes(0, 0, 1, 16, 0, 0);
        dueBytes(0, 0, 2, 32, 0, 0);
        dueBytes(0, 0, 3, 48, 0, 0);
        dueBytes(81, 0, 0, 0, 1, 0);
        dueBytes(-81, 0, 0, 0, 2, 0);
        dueBytes(0, 81, 0, 4, 0, 0);
        dueBytes(0, -81, 0, 8, 0, 0);
        dueBytes(121, 121, 3, 53, 85, 85);
        dueBytes(-121, -121, 3, 58, 170, 170);
        dueBytes(0, 0, 0, 0, 0, 0);
    }

    private void digits() {
        due.of("Terms", "A number is five DIGITS of two bits, for 1, 3, 9, 27, 81, the lowest bits for 1: 0 none, "
                + "1 that much more, 2 that much less");
        int[] worth = {1, 3, 9, 27, 81};
        for (int row = 0; row < 243; row++) {
            int number = 0;
            int bits = 0;
            int rest = row;
            for (int k = 0; k < 5; k++) {
                int digit = rest % 3;
                number += digit == 1 ? worth[k] : digit == 2 ? -worth[k] : 0;
                bits += digit << 2 * k;
                rest /= 3;
            }
            StitchDesk desk = new StitchDesk();
            Told.loadGroup(desk, bits);
            Told.loadGroup(desk, bits << 10);
            due.is("two records", desk.decode(), 2);
            due.isRow("of " + number, Told.records(desk), number, 0, 0, 0, number, 0);
            due.is("packed as dx", desk.byteAt(0) << 16 | desk.byteAt(1) << 8 | desk.byteAt(2), bits);
            due.is("packed as dy", desk.byteAt(3) << 16 | desk.byteAt(4) << 8 | desk.byteAt(5), bits << 10);
        }
    }

    private void highBits() {
        due.of("Terms", "22 and 23 are 0");
        StitchDesk desk = new StitchDesk();
        Told.outline(desk, 0, new int[] {590, 590, 599, 590, 590, 599});
        Told.outline(desk, 1, new int[] {0, 0, 70, 70, 0, 70});
        desk.stitch();
        for (int i = 0; i < 3 * desk.count(1); i += 3) {
            due.is("bits 22 and 23 of byteAt(" + i + ")", desk.byteAt(i) >> 6, 0);
        }
        for (int high = 1; high < 4; high++) {
            StitchDesk read = new StitchDesk();
            Told.loadGroup(read, high << 22);
            due.is("decode() of bits " + high + " there", read.decode(), -1);
        }
    }

    private void noDigit() {
        due.of("Terms", "3 is no digit");
        for (int k = 0; k < 10; k++) {
            for (int beside = 0; beside < 3; beside++) {
                int others = 0x55555 * beside & ~(3 << 2 * k);
                StitchDesk desk = new StitchDesk();
                Told.loadGroup(desk, 3 << 2 * k | others);
                due.is("3 as digit " + k + ", " + beside + " beside it", desk.decode(), -1);
            }
        }
        StitchDesk kind = new StitchDesk();
        Told.loadGroup(kind, 3 << 20);
        due.is("3 is a kind", kind.decode(), 1);
    }
}
