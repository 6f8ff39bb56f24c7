/** The edges that 'Terms' names of runs, the path and packed records: a test for each sentence. */
public final class RunsEdgeTest {
    private static final int[] NO_RING = {};

    private final Due due = new Due();

    public static void main(String[] args) {
        RunsEdgeTest test = new RunsEdgeTest();
        test.outlineRings();
        test.satinEdges();
        test.satinGreatest();
        test.satinPieces();
        test.satinDown();
        test.satinEnd();
        test.hatchDirections();
        test.hatchRows();
        test.hatchRowsOfSlants();
        test.parts();
        test.partsOfTwo();
        test.partsRiseAndFall();
        test.slantsRiseAndFall();
        test.needleAtFirst();
        test.stepsOfMove();
        test.endsOfSteps();
        test.noSteps();
        test.leaps();
        test.leapsInShape();
        test.order();
        test.withoutRuns();
        test.stops();
        test.betweenRuns();
        test.trimsAndStopsRest();
        test.byteOrder();
        test.digits();
        test.highBits();
        test.noDigit();
        test.due.finish();
    }

    private void duePath(String what, StitchDesk desk, int... want) {
        due.is(what + ": stitch()", desk.stitch(), want.length / 3);
        due.isRow(what, Told.records(desk), want);
    }

    /** Where the needle is behind each record of the path of all shapes. */
    private void dueNeedle(String what, StitchDesk desk, int... want) {
        due.is(what + ": stitch()", desk.stitch(), want.length / 2);
        due.isRow(what, Told.needlePlaces(desk), want);
    }

    private void outlineRings() {
        due.of("Terms", "OUTLINE: for each ring that has corners, in order, its corners, and its corner 0 again.");
        StitchDesk desk = new StitchDesk();
        desk.begin(0, 2, 4, 0);
        int[][] rings = {Told.box(0, 0, 60, 60), NO_RING, {10, 10, 20, 10, 10, 20}, {30, 30, 40, 30, 30, 40}};
        for (int r = 3; r >= 0; r--) {
            for (int i = 0; i < rings[r].length; i += 2) {
                desk.corner(r, rings[r][i], rings[r][i + 1]);
            }
        }
        due.is("a shape of three rings", desk.end(), 0);
        due.is("its runs", desk.shape(0, 8), 3);
        due.is("their places", desk.shape(0, 9), 5 + 4 + 4);
        dueNeedle("ring by ring", desk, 60, 0, 60, 60, 0, 60, 0, 0, 10, 10, 20, 10, 10, 20, 10, 10,
                30, 30, 40, 30, 30, 40, 30, 30);
    }

    private void satinEdges() {
        due.of("Terms", "For each edge of the rails, from corner i to i + 1, in order");
        StitchDesk desk = new StitchDesk();
        Told.satin(desk, 0, 10, new int[] {0, 0, 20, 0, 20, 30}, new int[] {5, 5, 15, 5, 15, 25});
        due.is("one run", desk.shape(0, 8), 1);
        due.is("its places", desk.shape(0, 9), 12);
        dueNeedle("two edges, the last is none", desk, 5, 5, 10, 0, 10, 5, 20, 0, 15, 5, 20, 10, 15, 11, 20, 20,
                15, 18, 20, 30, 15, 25);
    }

    private void dueSatinPlaces(int places, int spacing, int[] one, int[] two) {
        StitchDesk desk = new StitchDesk();
        due.is("a satin shape", Told.satin(desk, 0, spacing, one, two), 0);
        due.is("its runs", desk.shape(0, 8), 1);
        due.is("its places", desk.shape(0, 9), places);
    }

    private void satinGreatest() {
        due.of("Terms", "m is the greatest of how far both rails' edges go in x or in y");
        int[][] far = {{100, 100, 150, 109}, {150, 100, 100, 109}, {100, 100, 109, 150}, {109, 150, 100, 100}};
        int[][] near = {{200, 200, 207, 203}, {207, 203, 200, 200}, {200, 200, 200, 200}};
        for (int[] one : far) {
            for (int[] two : near) {
                dueSatinPlaces(2 * 5 + 2, 10, one, two);
                dueSatinPlaces(2 * 5 + 2, 10, two, one);
            }
            dueSatinPlaces(2 * 6 + 2, 10, one, new int[] {0, 0, 51, 51});
        }
    }

    private void satinPieces() {
        due.of("Terms", "divided by the spacing, up (1 at least)");
        int[] point = {300, 300, 300, 300};
        int[][] cases = {{0, 10, 1}, {1, 10, 1}, {9, 10, 1}, {10, 10, 1}, {11, 10, 2}, {20, 10, 2}, {21, 10, 3},
            {4, 4, 1}, {5, 4, 2}, {600, 4, 150}, {20, 20, 1}, {21, 20, 2}, {599, 20, 30}, {600, 20, 30}};
        for (int[] c : cases) {
            dueSatinPlaces(2 * c[2] + 2, c[1], new int[] {0, 0, c[0], 0}, point);
            dueSatinPlaces(2 * c[2] + 2, c[1], point, new int[] {0, c[0], 0, 0});
        }
        dueSatinPlaces(2 + 2 + 6 + 2, 10, new int[] {0, 0, 0, 0, 5, 5, 5, 35}, new int[] {9, 9, 9, 9, 9, 9, 9, 9});
    }

    private void satinDown() {
        due.of("Terms", "rail 0's corner i and k times its edge divided by m, down (in x, in y), then rail 1's likewise");
        StitchDesk desk = new StitchDesk();
        Told.satin(desk, 0, 10, new int[] {30, 30, 5, 5}, new int[] {0, 50, 20, 75});
        dueNeedle("edges that fall and rise", desk, 30, 30, 0, 50, 21, 21, 6, 58, 13, 13, 13, 66, 5, 5, 20, 75);
        StitchDesk other = new StitchDesk();
        Told.satin(other, 0, 10, new int[] {0, 50, 20, 75}, new int[] {30, 30, 5, 5});
        dueNeedle("the rails exchanged", other, 0, 50, 30, 30, 6, 58, 21, 21, 13, 66, 13, 13, 20, 75, 5, 5);
    }

    private void satinEnd() {
        due.of("Terms", "At last both rails' last corners, that of rail 0 first.");
        StitchDesk desk = new StitchDesk();
        Told.satin(desk, 0, 20, new int[] {0, 0, 9, 0}, new int[] {0, 9, 9, 9});
        dueNeedle("m is 1", desk, 0, 9, 9, 0, 9, 9);
        StitchDesk point = new StitchDesk();
        Told.satin(point, 0, 20, new int[] {9, 0, 9, 0}, new int[] {9, 9, 9, 9});
        dueNeedle("edges of no length", point, 9, 0, 9, 9, 9, 0, 9, 9);
    }

    private StitchDesk hatched(int spacing, int direction, int[]... rings) {
        StitchDesk desk = new StitchDesk();
        due.is("a hatched shape", Told.hatch(desk, 0, spacing, direction, rings), 0);
        return desk;
    }

    private void hatchDirections() {
        due.of("Terms", "let f and p of a place be y and x in direction 0, x and y in 1, x + y and x in 2, "
                + "y - x and x in 3");
        int[] box = Told.box(2, 3, 32, 23);
        dueNeedle("direction 0", hatched(10, 0, box), 32, 10, 2, 10, 2, 20, 32, 20);
        dueNeedle("direction 1", hatched(10, 1, box), 10, 23, 10, 3, 20, 3, 20, 23, 30, 23, 30, 3);
        dueNeedle("direction 2", hatched(10, 2, box), 7, 3, 2, 8, 2, 18, 17, 3, 27, 3, 7, 23, 17, 23, 32, 8,
                32, 18, 27, 23);
        dueNeedle("direction 3", hatched(10, 3, box), 23, 3, 32, 12, 32, 22, 13, 3, 3, 3, 23, 23, 13, 23, 2, 12,
                2, 22, 3, 23);
    }

    private void dueRuns(String what, int runs, int spacing, int direction, int[]... rings) {
        StitchDesk desk = hatched(spacing, direction, rings);
        due.is(what + ": runs", desk.shape(0, 8), runs);
        due.is(what + ": places", desk.shape(0, 9), 2 * runs);
    }

    private void hatchRows() {
        due.of("Terms", "For each f that is a multiple of the spacing, rising");
        dueRuns("rows from 0 to 600", 31, 20, 0, Told.box(0, 0, 10, 600));
        dueRuns("columns from 0 to 600", 31, 20, 1, Told.box(0, 0, 600, 10));
        dueRuns("rows of the least spacing", 151, 4, 0, Told.box(0, 0, 10, 600));
        dueRuns("rows at both ends", 2, 20, 0, Told.box(0, 20, 10, 40));
        dueRuns("columns at both ends", 2, 20, 1, Told.box(20, 0, 40, 10));
        dueRuns("no row", 0, 20, 0, Told.box(0, 21, 10, 39));
        dueRuns("no column", 0, 20, 1, Told.box(21, 0, 39, 10));
        dueRuns("row 0 alone", 1, 20, 0, Told.box(0, 0, 10, 19));
        dueRuns("row 600 alone", 1, 20, 0, Told.box(0, 581, 10, 600));
        dueRuns("no slanted row", 0, 20, 2, Told.box(21, 0, 30, 9));
        dueRuns("no row slanted the other way", 0, 20, 3, Told.box(22, 0, 30, 1));
        dueRuns("sums from 0 to 1200", 59, 20, 2, Told.box(0, 0, 600, 600));
        dueRuns("differences from -600 to 600", 59, 20, 3, Told.box(0, 0, 600, 600));
    }

    private void hatchRowsOfSlants() {
        due.of("Terms", "For each f that is a multiple of the spacing, rising");
        dueRuns("the greatest sums", 2, 11, 2, Told.box(590, 590, 600, 600));
        dueRuns("the least sums", 2, 4, 2, new int[] {0, 0, 9, 0, 0, 9});
        StitchDesk least = hatched(13, 3, Told.box(590, 0, 600, 10));
        due.is("the least differences: runs", least.shape(0, 8), 2);
        least.stitch();
        int jumps = 10;
        due.is("f -598: x", least.needle(jumps, 0), 598);
        due.is("f -598: y", least.needle(jumps, 1), 0);
        due.is("to x", least.needle(jumps + 1, 0), 600);
        due.is("f -585: x", least.needle(jumps + 2, 0), 595);
        due.is("to x, falling", least.needle(jumps + 3, 0), 590);
        StitchDesk greatest = hatched(13, 3, Told.box(0, 590, 10, 600));
        due.is("the greatest differences: runs", greatest.shape(0, 8), 2);
        greatest.stitch();
        due.is("f 585: x, falling", greatest.needle(jumps, 0), 10);
        due.is("to x, falling", greatest.needle(jumps + 1, 0), 5);
        due.is("f 598: x", greatest.needle(jumps + 2, 0), 0);
        due.is("to x", greatest.needle(jumps + 3, 0), 2);
    }

    private void parts() {
        due.of("Terms", "A PART is a greatest row of places, p one by one, that are all in the shape");
        int[] box = Told.box(0, 10, 40, 30);
        int[] tall = Told.box(10, 0, 30, 40);
        dueRuns("a hole with one place of the row in it", 4, 10, 0, box, Told.box(10, 15, 12, 25));
        dueRuns("a hole between two places of the row", 3, 10, 0, box, Told.box(10, 15, 11, 25));
        dueRuns("the row along the hole's edge", 3, 10, 0, box, Told.box(10, 20, 20, 25));
        dueRuns("the row at the hole's corner", 3, 10, 0, box, new int[] {10, 20, 15, 25, 5, 25});
        dueRuns("a hole with one place of the column in it", 4, 10, 1, tall, Told.box(15, 10, 25, 12));
        dueRuns("a hole between two places of the column", 3, 10, 1, tall, Told.box(15, 10, 25, 11));
        dueRuns("the row goes on to the edge of the places", 1, 10, 0, new int[] {590, 590, 600, 580, 600, 600});
        // The teeth end at 10 and begin at 11: side by side, though not joined.
        int[] teeth = {0, 0, 21, 0, 21, 30, 11, 30, 11, 10, 10, 10, 10, 30, 0, 30};
        dueRuns("teeth side by side", 2, 20, 0, teeth);
        int[] apart = {0, 0, 22, 0, 22, 30, 12, 30, 12, 10, 10, 10, 10, 30, 0, 30};
        dueRuns("teeth with a place between them", 3, 20, 0, apart);
    }

    private void partsOfTwo() {
        due.of("Terms", "it counts if it has two places at least");
        dueRuns("a row of one place", 0, 20, 0, new int[] {5, 20, 9, 30, 1, 30});
        dueRuns("a row of two places", 1, 20, 0, new int[] {5, 20, 6, 20, 5, 30});
        dueRuns("a column of one place", 0, 20, 1, new int[] {20, 5, 30, 9, 30, 1});
        dueRuns("a column of two places", 1, 20, 1, new int[] {20, 5, 20, 6, 30, 5});
        dueRuns("a sum of one place", 0, 20, 2, new int[] {10, 10, 15, 10, 10, 15});
        dueRuns("a sum of two places", 1, 20, 2, new int[] {10, 10, 11, 9, 15, 15});
        dueRuns("a difference of one place", 0, 20, 3, new int[] {10, 30, 15, 30, 15, 34});
        dueRuns("a difference of two places", 1, 20, 3, new int[] {10, 30, 11, 31, 5, 35});
        int[] tooth = {0, 0, 60, 0, 60, 40, 40, 40, 40, 10, 30, 20, 20, 10, 20, 40, 0, 40};
        dueRuns("one place between two parts", 5, 20, 0, tooth);
        int[] wide = {0, 0, 60, 0, 60, 40, 40, 40, 40, 10, 31, 20, 30, 20, 20, 10, 20, 40, 0, 40};
        dueRuns("two places between two parts", 6, 20, 0, wide);
    }

    private void partsRiseAndFall() {
        due.of("Terms", "If f divided by the spacing is even, the parts come with rising p, else with falling p, "
                + "each from its other end.");
        int[] tooth = {0, 0, 60, 0, 60, 40, 40, 40, 40, 10, 30, 20, 20, 10, 20, 40, 0, 40};
        dueNeedle("parts of rows 0, 1 and 2", hatched(20, 0, tooth), 60, 0, 60, 20, 40, 20, 20, 20, 0, 20,
                0, 40, 20, 40, 40, 40, 60, 40);
        int[] turned = {0, 0, 0, 60, 40, 60, 40, 40, 10, 40, 20, 30, 10, 20, 40, 20, 40, 0};
        dueNeedle("parts of columns 0, 1 and 2", hatched(20, 1, turned), 0, 60, 20, 60, 20, 40, 20, 20, 20, 0,
                40, 0, 40, 20, 40, 40, 40, 60);
        dueNeedle("a first row that is odd", hatched(20, 0, Told.box(0, 15, 9, 25)), 9, 20, 0, 20);
        dueNeedle("a first row that is even", hatched(20, 0, Told.box(0, 35, 9, 45)), 0, 40, 9, 40);
    }

    private void slantsRiseAndFall() {
        due.of("Terms", "If f divided by the spacing is even, the parts come with rising p, else with falling p, "
                + "each from its other end.");
        dueNeedle("f -1 by the spacing", hatched(20, 3, Told.box(25, 0, 35, 12)), 32, 12, 25, 5);
        dueNeedle("f -2 by the spacing", hatched(20, 3, Told.box(42, 0, 50, 9)), 42, 2, 49, 9);
        dueNeedle("f -3 by the spacing", hatched(20, 3, Told.box(62, 0, 69, 9)), 69, 9, 62, 2);
        dueNeedle("f 0", hatched(20, 3, Told.box(30, 30, 35, 35)), 30, 30, 35, 35);
        dueNeedle("f 1 by the spacing", hatched(20, 3, Told.box(0, 22, 9, 30)), 9, 29, 2, 22);
        dueNeedle("f 3 by the spacing, sums", hatched(20, 2, Told.box(25, 27, 33, 34)), 33, 27, 26, 34);
    }

    private void needleAtFirst() {
        due.of("Terms", "The needle is at (0, 0) at first");
        StitchDesk desk = new StitchDesk();
        Told.outline(desk, 0, new int[] {10, 5, 30, 5, 30, 25});
        int[] want = {10, 5, 1, 20, 0, 0, 0, 20, 0, -20, -20, 0};
        duePath("from (0, 0)", desk, want);
        duePath("from (0, 0) again", desk, want);
        Told.loadGroup(desk, 1);
        due.is("another path", desk.decode(), 1);
        duePath("from (0, 0) behind another path", desk, want);
    }

    private void stepsOfMove() {
        due.of("Terms", "n is the greater of how far it goes in x and in y, divided by 70, up");
        int[][] cases = {{1, 1}, {69, 1}, {70, 1}, {71, 2}, {140, 2}, {141, 3}, {210, 3}, {211, 4}, {560, 8},
            {561, 9}, {600, 9}};
        for (int[] c : cases) {
            StitchDesk wide = new StitchDesk();
            Told.outline(wide, 0, new int[] {0, 0, c[0], 0, 0, 1});
            due.is("steps of " + c[0] + " in x, and back", wide.stitch(), 2 * c[1] + 1);
            StitchDesk high = new StitchDesk();
            Told.outline(high, 0, new int[] {0, 0, 0, c[0], 1, 0});
            due.is("steps of " + c[0] + " in y, and back", high.stitch(), 2 * c[1] + 1);
            StitchDesk jumped = new StitchDesk();
            Told.outline(jumped, 0, new int[] {c[0], 0, c[0], 1, c[0] - 1, 0});
            due.is("jumps of " + c[0], jumped.stitch(), c[1] + (c[0] > 300 ? 1 : 0) + 3);
        }
    }

    private void endsOfSteps() {
        due.of("Terms", "step k of n (1 .. n) ends at the beginning and k times dx, and dy, divided by n, down");
        StitchDesk rising = new StitchDesk();
        Told.outline(rising, 0, new int[] {0, 0, 150, 71, 0, 71});
        duePath("rising steps", rising, 50, 23, 0, 50, 24, 0, 50, 24, 0, -50, 0, 0, -50, 0, 0, -50, 0, 0,
                0, -36, 0, 0, -35, 0);
        StitchDesk falling = new StitchDesk();
        Told.outline(falling, 0, new int[] {0, 0, 0, 71, 150, 71});
        duePath("falling steps", falling, 0, 35, 0, 0, 36, 0, 50, 0, 0, 50, 0, 0, 50, 0, 0,
                -50, -24, 0, -50, -24, 0, -50, -23, 0);
        StitchDesk across = new StitchDesk();
        Told.outline(across, 0, new int[] {71, 1, 0, 80, 0, 1});
        duePath("jumps likewise", across, 35, 0, 1, 36, 1, 1, -36, 39, 0, -35, 40, 0, 0, -40, 0, 0, -39, 0,
                35, 0, 0, 36, 0, 0);
    }

    private void noSteps() {
        due.of("Terms", "(By (0, 0) there are no steps.)");
        StitchDesk desk = new StitchDesk();
        Told.outline(desk, 0, new int[] {0, 0, 9, 0, 0, 9});
        duePath("a leap to where the needle is", desk, 9, 0, 0, -9, 9, 0, 0, -9, 0);
        Told.outline(desk, 0, new int[] {0, 0, 5, 0, 0, 5});
        duePath("a leap from shape to shape", desk, 9, 0, 0, -9, 9, 0, 0, -9, 0, 5, 0, 0, -5, 5, 0, 0, -5, 0);
        StitchDesk point = new StitchDesk();
        Told.satin(point, 0, 10, new int[] {5, 5, 5, 5, 9, 5}, new int[] {5, 5, 5, 5, 9, 5});
        duePath("stitches from a place to itself", point, 5, 5, 1, 4, 0, 0);
        StitchDesk nothing = new StitchDesk();
        Told.satin(nothing, 0, 10, new int[] {0, 0, 0, 0}, new int[] {0, 0, 0, 0});
        duePath("a whole shape in one place", nothing);
    }

    /** A small outline at (x, y), then one at (toX, toY): the kinds of the records between them. */
    private void dueLeap(int x, int y, int toX, int toY, boolean trimmed, int jumps) {
        StitchDesk desk = new StitchDesk();
        Told.outline(desk, 0, new int[] {x, y, x + 1, y, x, y + 1});
        int before = desk.stitch();
        Told.outline(desk, 0, new int[] {toX, toY, toX + 1, toY, toX, toY + 1});
        String what = "leap by (" + (toX - x) + ", " + (toY - y) + ")";
        due.is(what + ": records", desk.stitch(), before + (trimmed ? 1 : 0) + jumps + 3);
        due.is(what + ": the first kind", desk.record(before, 2), trimmed ? 2 : 1);
        int[] want = new int[jumps];
        int[] got = new int[jumps];
        for (int k = 0; k < jumps; k++) {
            want[k] = 1;
            got[k] = desk.record(before + (trimmed ? 1 : 0) + k, 2);
        }
        due.isRow(what + ": kinds", got, want);
    }

    private void leaps() {
        due.of("Terms", "A LEAP is a move of jumps, behind a trim if it goes further than 300 in x or in y.");
        for (int other : new int[] {0, 50, -50, 299, -299}) {
            dueLeap(299, 299, 299 + 300, 299 + other, false, 5);
            dueLeap(300, 300, 0, 300 + other, false, 5);
            dueLeap(299, 299, 299 + other, 299 + 300, false, 5);
            dueLeap(300, 300, 300 + other, 0, false, 5);
        }
        dueLeap(299, 299, 599, 599, false, 5);
        dueLeap(300, 300, 0, 0, false, 5);
        for (int other : new int[] {0, 50, -50, 298, -298}) {
            dueLeap(298, 298, 298 + 301, 298 + other, true, 5);
            dueLeap(301, 301, 0, 301 + other, true, 5);
            dueLeap(298, 298, 298 + other, 298 + 301, true, 5);
            dueLeap(301, 301, 301 + other, 0, true, 5);
        }
        dueLeap(0, 0, 599, 599, true, 9);
        dueLeap(599, 599, 0, 0, true, 9);
    }

    private void leapsInShape() {
        due.of("Terms", "A LEAP is a move of jumps, behind a trim if it goes further than 300 in x or in y.");
        int[] near = Told.records(stitched(hatched(20, 0, Told.box(0, 15, 60 + 300, 25), Told.box(20, 18, 320, 22))));
        int[] far = Told.records(stitched(hatched(20, 0, Told.box(0, 15, 60 + 300, 25), Told.box(20, 18, 321, 22))));
        // Six jumps behind a trim to (360, 20), one stitch to the hole, then over it.
        due.is("over 300: records", near.length / 3, 7 + 1 + 5 + 1);
        due.is("over 300: a jump", near[3 * 8 + 2], 1);
        due.is("over 301: records", far.length / 3, 7 + 1 + 6 + 1);
        due.is("over 301: a trim", far[3 * 8 + 2], 2);
        due.is("over 301: a jump", far[3 * 9 + 2], 1);
    }

    private static StitchDesk stitched(StitchDesk desk) {
        desk.stitch();
        return desk;
    }

    private void order() {
        due.of("Terms", "The shapes come in their ORDER (at first as they were told).");
        StitchDesk desk = new StitchDesk();
        Told.outline(desk, 1, new int[] {0, 0, 9, 0, 0, 9});
        Told.outline(desk, 2, new int[] {20, 0, 29, 0, 20, 9});
        Told.outline(desk, 1, new int[] {40, 0, 49, 0, 40, 9});
        dueNeedle("as they were told", desk, 9, 0, 0, 9, 0, 0, 0, 0, 20, 0, 29, 0, 20, 9, 20, 0, 20, 0, 40, 0, 49, 0,
                40, 9, 40, 0);
        due.is("reorder()", desk.reorder(), 1);
        dueNeedle("in another order", desk, 9, 0, 0, 9, 0, 0, 40, 0, 49, 0, 40, 9, 40, 0, 40, 0, 20, 0, 29, 0, 20, 9,
                20, 0);
    }

    private void withoutRuns() {
        due.of("Terms", "A shape without runs does nothing.");
        StitchDesk desk = new StitchDesk();
        int[] small = {0, 0, 9, 0, 0, 9};
        Told.hatch(desk, 3, 20, 0, Told.box(401, 401, 409, 409));
        due.is("no runs", desk.shape(0, 8), 0);
        duePath("alone", desk);
        Told.outline(desk, 1, small);
        duePath("ahead of another", desk, 9, 0, 0, -9, 9, 0, 0, -9, 0);
        Told.hatch(desk, 3, 20, 0, Told.box(401, 401, 409, 409));
        duePath("behind another", desk, 9, 0, 0, -9, 9, 0, 0, -9, 0);
        Told.outline(desk, 1, small);
        duePath("between two of one colour", desk, 9, 0, 0, -9, 9, 0, 0, -9, 0, 9, 0, 0, -9, 9, 0, 0, -9, 0);
        Told.hatch(desk, 2, 20, 0, Told.box(401, 401, 409, 409));
        Told.outline(desk, 2, small);
        duePath("ahead of its own colour", desk, 9, 0, 0, -9, 9, 0, 0, -9, 0, 9, 0, 0, -9, 9, 0, 0, -9, 0,
                0, 0, 3, 9, 0, 0, -9, 9, 0, 0, -9, 0);
    }

    private void stops() {
        due.of("Terms", "a stop, if the shape with runs before it has another colour");
        int[] small = {0, 0, 9, 0, 0, 9};
        StitchDesk desk = new StitchDesk();
        Told.outline(desk, 7, small);
        duePath("none ahead of the first", desk, 9, 0, 0, -9, 9, 0, 0, -9, 0);
        Told.outline(desk, 7, small);
        duePath("none between two of one colour", desk, 9, 0, 0, -9, 9, 0, 0, -9, 0, 9, 0, 0, -9, 9, 0, 0, -9, 0);
        StitchDesk back = new StitchDesk();
        for (int colour : new int[] {0, 7, 0, 1}) {
            Told.outline(back, colour, small);
        }
        due.is("three stops", back.stitch(), 3 * 4 + 3);
        for (int k = 0; k < 3; k++) {
            due.is("stop " + k, back.stop(4 * k), 3 + 4 * k);
        }
        StitchDesk point = new StitchDesk();
        Told.satin(point, 0, 10, new int[] {0, 0, 0, 0}, new int[] {0, 0, 0, 0});
        Told.outline(point, 1, small);
        duePath("a run without steps is one all the same", point, 0, 0, 3, 9, 0, 0, -9, 9, 0, 0, -9, 0);
        StitchDesk far = new StitchDesk();
        Told.outline(far, 0, small);
        Told.outline(far, 1, new int[] {301, 0, 310, 0, 301, 9});
        far.stitch();
        due.is("the stop comes first", far.record(3, 2), 3);
        due.is("then the trim", far.record(4, 2), 2);
        due.is("then jumps", far.record(5, 2), 1);
    }

    private void betweenRuns() {
        due.of("Terms", "from a run's end to the beginning of the next one of the shape a move of stitches "
                + "if all ends of its steps are in the shape, else a leap");
        dueNeedle("over a hole in one step", hatched(20, 0, Told.box(0, 15, 60, 25), Told.box(20, 18, 40, 22)),
                60, 20, 40, 20, 20, 20, 0, 20);
        int[] box = Told.box(0, 15, 140, 25);
        // From (111, 20) to (40, 20): the first step ends at (75, 20).
        StitchDesk out = hatched(20, 0, box, Told.box(40, 18, 111, 22));
        duePath("the first of two steps is out", out, 70, 10, 1, 70, 10, 1, -29, 0, 0, -36, 0, 1, -35, 0, 1, -40, 0, 0);
        StitchDesk in = hatched(20, 0, box, new int[] {40, 18, 111, 18, 111, 22, 76, 22, 75, 20, 74, 22, 40, 22});
        duePath("the first of two steps is on an edge", in, 70, 10, 1, 70, 10, 1, -29, 0, 0, -36, 0, 0, -35, 0, 0,
                -40, 0, 0);
        // The ends are (122, 20) and (81, 20): one is in the shape, one in the hole.
        int[] wide = Told.box(0, 15, 210, 25);
        StitchDesk second = hatched(20, 0, wide, new int[] {40, 18, 164, 18, 164, 22, 123, 22, 122, 20, 121, 22, 40, 22});
        due.is("three steps, the second is out: parts", second.shape(0, 8), 2);
        second.stitch();
        due.is("three steps, the second is out: kind", second.record(4, 2), 1);
        int[] high = {0, 0, 20, 0, 20, 100, 40, 100, 40, 0, 60, 0, 60, 110, 0, 110};
        StitchDesk bay = hatched(20, 1, high);
        due.is("over a bay in the direction 1", bay.shape(0, 8), 4);
        bay.stitch();
        due.is("columns 20 and 40 lie on edges", bay.count(1), 4 * 2 + 3);
        dueOfOutline();
    }

    /** From corner 0 of the outside to corner 0 of the hole, over a bay or not. */
    private void dueOfOutline() {
        int[] bay = {50, 0, 60, 0, 60, 100, 10, 100, 10, 70, 55, 70, 55, 10, 50, 10};
        StitchDesk out = new StitchDesk();
        due.is("an outline with a bay", Told.outline(out, 0, bay, new int[] {50, 80, 54, 80, 50, 84}), 0);
        out.stitch();
        int last = out.count(1) - 1;
        due.is("over the bay: kind", out.record(last - 3, 2), 1);
        due.is("over the bay: the first step", out.record(last - 4, 2), 1);
        StitchDesk in = new StitchDesk();
        due.is("an outline without", Told.outline(in, 0, Told.box(50, 0, 60, 100), new int[] {54, 80, 56, 80, 54, 84}),
                0);
        in.stitch();
        due.is("in the shape: kind", in.record(in.count(1) - 4, 2), 0);
        due.is("in the shape: the first step", in.record(in.count(1) - 5, 2), 0);
    }

    private void trimsAndStopsRest() {
        due.of("Terms", "Trims and stops have dx and dy 0.");
        StitchDesk desk = new StitchDesk();
        Told.outline(desk, 0, new int[] {590, 590, 599, 590, 590, 599});
        Told.outline(desk, 1, new int[] {0, 0, 9, 0, 0, 9});
        duePath("a path of them", desk, 0, 0, 2, 65, 65, 1, 66, 66, 1, 65, 65, 1, 66, 66, 1, 65, 65, 1, 66, 66, 1,
                65, 65, 1, 66, 66, 1, 66, 66, 1, 9, 0, 0, -9, 9, 0, 0, -9, 0,
                0, 0, 3, 0, 0, 2, -66, -66, 1, -66, -66, 1, -65, -65, 1, -66, -66, 1, -65, -65, 1, -66, -66, 1,
                -65, -65, 1, -66, -66, 1, -65, -65, 1, 9, 0, 0, -9, 9, 0, 0, -9, 0);
    }

    private void dueBytes(int dx, int dy, int kind, int... want) {
        StitchDesk desk = Told.tape(dx, dy, kind);
        int[] got = {desk.byteAt(0), desk.byteAt(1), desk.byteAt(2)};
        due.isRow("bytes of (" + dx + ", " + dy + ", " + kind + ")", got, want);
        due.isRow("the record (" + dx + ", " + dy + ", " + kind + ")", Told.records(desk), dx, dy, kind);
    }

    private void byteOrder() {
        due.of("Terms", "its bytes from the highest on: bits 0 to 9 dx, 10 to 19 dy, 20 and 21 its kind");
        dueBytes(1, 0, 0, 0, 0, 1);
        dueBytes(0, 1, 0, 0, 4, 0);
        dueBytes(0, 0, 1, 16, 0, 0);
        dueBytes(0, 0, 2, 32, 0, 0);
        dueBytes(0, 0, 3, 48, 0, 0);
        dueBytes(81, 0, 0, 0, 1, 0);
        dueBytes(-81, 0, 0, 0, 2, 0);
        dueBytes(0, 81, 0, 4, 0, 0);
        dueBytes(0, -81, 0, 8, 0, 0);
        dueBytes(121, 121, 3, 53, 85, 85);
        dueBytes(-121, -121, 3, 58, 170, 170);
        dueBytes(0, 0, 0, 0, 0, 0);
    }

    private void digits() {
        due.of("Terms", "A number is five DIGITS of two bits, for 1, 3, 9, 27, 81, the lowest bits for 1: 0 none, "
                + "1 that much more, 2 that much less");
        int[] worth = {1, 3, 9, 27, 81};
        for (int row = 0; row < 243; row++) {
            int number = 0;
            int bits = 0;
            int rest = row;
            for (int k = 0; k < 5; k++) {
                int digit = rest % 3;
                number += digit == 1 ? worth[k] : digit == 2 ? -worth[k] : 0;
                bits += digit << 2 * k;
                rest /= 3;
            }
            StitchDesk desk = new StitchDesk();
            Told.loadGroup(desk, bits);
            Told.loadGroup(desk, bits << 10);
            due.is("two records", desk.decode(), 2);
            due.isRow("of " + number, Told.records(desk), number, 0, 0, 0, number, 0);
            due.is("packed as dx", desk.byteAt(0) << 16 | desk.byteAt(1) << 8 | desk.byteAt(2), bits);
            due.is("packed as dy", desk.byteAt(3) << 16 | desk.byteAt(4) << 8 | desk.byteAt(5), bits << 10);
        }
    }

    private void highBits() {
        due.of("Terms", "22 and 23 are 0");
        StitchDesk desk = new StitchDesk();
        Told.outline(desk, 0, new int[] {590, 590, 599, 590, 590, 599});
        Told.outline(desk, 1, new int[] {0, 0, 70, 70, 0, 70});
        desk.stitch();
        for (int i = 0; i < 3 * desk.count(1); i += 3) {
            due.is("bits 22 and 23 of byteAt(" + i + ")", desk.byteAt(i) >> 6, 0);
        }
        for (int high = 1; high < 4; high++) {
            StitchDesk read = new StitchDesk();
            Told.loadGroup(read, high << 22);
            due.is("decode() of bits " + high + " there", read.decode(), -1);
        }
    }

    private void noDigit() {
        due.of("Terms", "3 is no digit");
        for (int k = 0; k < 10; k++) {
            for (int beside = 0; beside < 3; beside++) {
                int others = 0x55555 * beside & ~(3 << 2 * k);
                StitchDesk desk = new StitchDesk();
                Told.loadGroup(desk, 3 << 2 * k | others);
                due.is("3 as digit " + k + ", " + beside + " beside it", desk.decode(), -1);
            }
        }
        StitchDesk kind = new StitchDesk();
        Told.loadGroup(kind, 3 << 20);
        due.is("3 is a kind", kind.decode(), 1);
    }
}
