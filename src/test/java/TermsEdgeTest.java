/** The edges that 'Terms' names of places, rings, shapes, faults, boxes: a test for each sentence. */
public final class TermsEdgeTest {
    private static final Class<IllegalArgumentException> ARGUMENT = IllegalArgumentException.class;
    private static final Class<UnsupportedOperationException> UNSUPPORTED = UnsupportedOperationException.class;
    private static final int[] NO_RING = {};

    private final Due due = new Due();

    public static void main(String[] args) {
        TermsEdgeTest test = new TermsEdgeTest();
        test.places();
        test.placesAtTheEdgesAreKept();
        test.downAndUp();
        test.closedRing();
        test.numbersOfShape();
        test.ringsOfShape();
        test.mostCorners();
        test.mostRailCorners();
        test.edgeNumbers();
        test.orderOfFaults();
        test.flatWithoutOutside();
        test.flatOfTooFew();
        test.flatOnOneLine();
        test.notQuiteOnOneLine();
        test.flatRails();
        test.crossed();
        test.notQuiteCrossed();
        test.neighboursThatMay();
        test.neighboursThatMayNot();
        test.noNeighbours();
        test.crossedAtEachSide();
        test.outside();
        test.within();
        test.outsideByCorner0();
        test.insideNotOnEdges();
        test.insideAtHeightOfCorners();
        test.insideByRightPoints();
        test.inOnEdge();
        test.inOdd();
        test.inSatin();
        test.inSatinOfNoLength();
        test.box();
        test.boxOfRails();
        test.meet();
        test.due.finish();
    }

    private void places() {
        due.of("Terms", "PLACES are (x, y), x and y 0 .. 600.");
        int[] right = {0, 600};
        for (int x : right) {
            for (int y : right) {
                StitchDesk desk = new StitchDesk();
                due.is("under at the edge", desk.under(x, y), -1);
                desk.begin(0, 2, 4, 0);
                due.is("corner(0, " + x + ", " + y + ")", desk.corner(0, x, y), 1);
                desk.end();
                desk.begin(0, 1, 4, 0);
                due.is("rail(1, " + x + ", " + y + ")", desk.rail(1, x, y), 1);
            }
        }
        int[] wrong = {-1, 601, Integer.MIN_VALUE, Integer.MAX_VALUE};
        StitchDesk rings = new StitchDesk();
        StitchDesk rails = new StitchDesk();
        rings.begin(0, 0, 4, 0);
        rails.begin(0, 1, 4, 0);
        for (int w : wrong) {
            for (int other : new int[] {0, 600, w}) {
                due.isThrown("corner, x " + w, ARGUMENT, () -> rings.corner(0, w, other));
                due.isThrown("corner, y " + w, ARGUMENT, () -> rings.corner(0, other, w));
                due.isThrown("rail, x " + w, ARGUMENT, () -> rails.rail(0, w, other));
                due.isThrown("rail, y " + w, ARGUMENT, () -> rails.rail(0, other, w));
                due.isThrown("under, x " + w, ARGUMENT, () -> rails.under(w, other));
                due.isThrown("under, y " + w, ARGUMENT, () -> rails.under(other, w));
            }
        }
    }

    private void placesAtTheEdgesAreKept() {
        due.of("Terms", "PLACES are (x, y), x and y 0 .. 600.");
        StitchDesk desk = new StitchDesk();
        due.is("all places in one shape", Told.hatch(desk, 0, 20, 0, Told.box(0, 0, 600, 600)), 0);
        int[][] in = {{0, 0}, {600, 0}, {0, 600}, {600, 600}, {0, 300}, {600, 300}, {300, 0}, {300, 600}, {300, 300}};
        for (int[] place : in) {
            due.is("under(" + place[0] + ", " + place[1] + ")", desk.under(place[0], place[1]), 0);
        }
        due.is("rows at 0, 20 .. 600", desk.shape(0, 8), 31);
    }

    private void downAndUp() {
        due.of("Terms", "DOWN is to the next whole number not above, UP to the next one not below.");
        StitchDesk desk = new StitchDesk();
        Told.outline(desk, 0, new int[] {71, 0, 0, 0, 71, 9});
        due.is("71 by 70 is 2, up", desk.stitch(), 2 + 2 + 2 + 1);
        due.isRow("35.5 down is 35, -35.5 down is -36", Told.records(desk), 35, 0, 1, 36, 0, 1, -36, 0, 0, -35, 0, 0,
                35, 4, 0, 36, 5, 0, 0, -9, 0);
        due.is("the root of 1241 is 36, up", desk.thread(0), 36 + 35 + 36 + 37 + 9);
        StitchDesk satin = new StitchDesk();
        Told.satin(satin, 0, 20, new int[] {21, 41, 0, 0}, new int[] {50, 50, 50, 50});
        due.is("41 by 20 is 3, up", satin.shape(0, 9), 2 * 3 + 2);
        satin.stitch();
        due.is("-41 by 3 down is -14", satin.needle(3, 1), 41 - 14);
        due.is("-21 by 3 is -7", satin.needle(3, 0), 21 - 7);
        due.is("-82 by 3 down is -28", satin.needle(5, 1), 41 - 28);
    }

    private void closedRing() {
        due.of("Terms", "it has an EDGE from each corner to the next one, and from the last to the first one");
        StitchDesk desk = new StitchDesk();
        Told.outline(desk, 0, new int[] {0, 0, 40, 0, 40, 40});
        due.is("on the last edge", desk.under(20, 20), 0);
        due.is("at one side of it", desk.under(20, 19), 0);
        due.is("at its other side", desk.under(19, 20), -1);
        due.is("the last edge crosses", Told.outline(desk, 0, new int[] {0, 0, 40, 0, 0, 40, 40, 40}), 2);
        due.is("the lesser edge", desk.fault(1), 1);
        due.is("the last edge", desk.fault(2), 3);
    }

    private void numbersOfShape() {
        due.of("Terms", "A SHAPE has a COLOUR (0 .. 7), a FILL (0 HATCH, 1 SATIN, 2 OUTLINE), "
                + "a SPACING (4 .. 20) and a DIRECTION (0 .. 3).");
        int[] least = {0, 0, 4, 0};
        int[] greatest = {7, 2, 20, 3};
        for (int which = 0; which < 4; which++) {
            for (int number = least[which]; number <= greatest[which]; number++) {
                int[] told = {1, 2, 10, 1};
                told[which] = number;
                dueTaken(told);
            }
            int[] wrong = {least[which] - 1, greatest[which] + 1, Integer.MIN_VALUE, Integer.MAX_VALUE};
            for (int number : wrong) {
                StitchDesk desk = new StitchDesk();
                int[] told = {1, 2, 10, 1};
                told[which] = number;
                due.isThrown("begin with " + number + " as number " + which, ARGUMENT,
                        () -> desk.begin(told[0], told[1], told[2], told[3]));
                due.is("none is open then", desk.count(3), 0);
            }
        }
    }

    private void dueTaken(int[] told) {
        StitchDesk desk = new StitchDesk();
        desk.begin(told[0], told[1], told[2], told[3]);
        if (told[1] == Told.SATIN) {
            Told.rails(desk, new int[] {0, 0, 9, 0}, new int[] {0, 9, 9, 9});
        } else {
            Told.rings(desk, Told.box(0, 0, 9, 9));
        }
        due.is("a shape of right numbers", desk.end(), 0);
        for (int what = 0; what < 4; what++) {
            due.is("shape(0, " + what + ")", desk.shape(0, what), told[what]);
        }
    }

    private void ringsOfShape() {
        due.of("Terms", "With the fills 0 and 2 it has the ring 0, its outside, and perhaps rings 1 .. 3, its holes");
        for (int fill = 0; fill <= 2; fill += 2) {
            for (int hole = 1; hole <= 3; hole++) {
                StitchDesk desk = new StitchDesk();
                desk.begin(0, fill, 10, 0);
                int[][] rings = {Told.box(0, 0, 60, 60), NO_RING, NO_RING, NO_RING};
                rings[hole] = Told.box(20, 20, 40, 40);
                Told.rings(desk, rings);
                due.is("hole " + hole + " alone", desk.end(), 0);
                due.is("in hole " + hole, desk.under(30, 30), -1);
                due.is("beside hole " + hole, desk.under(10, 30), 0);
            }
            StitchDesk desk = new StitchDesk();
            desk.begin(0, fill, 10, 0);
            due.isThrown("ring -1", ARGUMENT, () -> desk.corner(-1, 5, 5));
            due.isThrown("ring 4", ARGUMENT, () -> desk.corner(4, 5, 5));
        }
    }

    private void mostCorners() {
        due.of("Terms", "each with at most 24 corners");
        StitchDesk desk = new StitchDesk();
        desk.begin(0, 2, 4, 0);
        Told.rings(desk, Told.squareOf24(0, 0, 600), Told.squareOf24(60, 60, 60), Told.squareOf24(180, 180, 60),
                Told.squareOf24(300, 300, 60));
        for (int ring = 0; ring < 4; ring++) {
            int full = ring;
            due.isThrown("corner 25 of ring " + ring, UNSUPPORTED, () -> desk.corner(full, 500, 500));
        }
        due.is("four rings of 24", desk.end(), 0);
        due.is("their runs", desk.shape(0, 8), 4);
        due.is("their places", desk.shape(0, 9), 100);
        due.is("in the last hole", desk.under(330, 330), -1);
        due.is("on its last edge", desk.under(300, 305), 0);
    }

    private void mostRailCorners() {
        due.of("Terms", "with fill 1 two RAILS, 0 and 1, of at most 16 corners each");
        StitchDesk desk = new StitchDesk();
        desk.begin(0, 1, 20, 0);
        for (int side = 0; side < 2; side++) {
            for (int k = 1; k <= 16; k++) {
                due.is("corner " + k + " of rail " + side, desk.rail(side, 10 * k, 100 * side), k);
            }
        }
        for (int side = 0; side < 2; side++) {
            int full = side;
            due.isThrown("corner 17 of rail " + side, UNSUPPORTED, () -> desk.rail(full, 500, 500));
        }
        due.isThrown("rail -1", ARGUMENT, () -> desk.rail(-1, 5, 5));
        due.isThrown("rail 2", ARGUMENT, () -> desk.rail(2, 5, 5));
        due.is("two rails of 16", desk.end(), 0);
        due.is("their places", desk.shape(0, 9), 32);
        due.is("at their last corners", desk.under(160, 50), 0);
        due.is("behind them", desk.under(161, 50), -1);
    }

    private void dueCrossed(String what, int lesser, int other, int[]... rings) {
        StitchDesk desk = new StitchDesk();
        due.is(what, Told.outline(desk, 0, rings), 2);
        due.is(what + ": the lesser edge", desk.fault(1), lesser);
        due.is(what + ": the other edge", desk.fault(2), other);
    }

    private void dueFault(String what, int fault, int[]... rings) {
        for (int fill = 0; fill <= 2; fill += 2) {
            StitchDesk desk = new StitchDesk();
            desk.begin(0, fill, 4, 0);
            Told.rings(desk, rings);
            due.is(what + ", fill " + fill, desk.end(), fault);
            due.is(what + ", fill " + fill + ": fault(0)", desk.fault(0), fault);
            due.is(what + ", fill " + fill + ": shapes", desk.count(0), fault == 0 ? 1 : 0);
        }
    }

    private void edgeNumbers() {
        due.of("Terms", "Its edges are numbered ring by ring (0 first), each by the corner where it begins.");
        int[] big = Told.box(0, 0, 200, 200);
        int[] bow = {100, 100, 140, 140, 140, 100, 100, 140};
        dueCrossed("in ring 0", 0, 2, bow);
        dueCrossed("in ring 1", 4, 6, big, bow);
        dueCrossed("in ring 2, ring 1 has no edges", 4, 6, big, NO_RING, bow);
        dueCrossed("in ring 3, behind 4 and 3 edges", 7, 9, big, NO_RING, new int[] {10, 10, 30, 10, 20, 20}, bow);
        StitchDesk desk = new StitchDesk();
        desk.begin(0, 2, 4, 0);
        for (int ring = 3; ring >= 0; ring -= 3) {
            int[] row = ring == 3 ? bow : big;
            for (int i = 0; i < row.length; i += 2) {
                desk.corner(ring, row[i], row[i + 1]);
            }
        }
        due.is("the hole told first", desk.end(), 2);
        due.is("it is numbered behind ring 0", desk.fault(1), 4);
        int[] last = Told.squareOf24(300, 300, 60);
        last[46] = 310;
        last[47] = 300;
        dueCrossed("in the last of four full rings", 72, 94, Told.squareOf24(0, 0, 600), Told.squareOf24(60, 60, 60),
                Told.squareOf24(180, 180, 60), last);
    }

    private void orderOfFaults() {
        due.of("Terms", "FAULTS of a shape, looked for in this order");
        int[] bow = {0, 0, 40, 40, 40, 0, 0, 40};
        int[] big = Told.box(0, 0, 50, 50);
        int[] away = Told.box(200, 200, 300, 300);
        int[] inAway = Told.box(210, 210, 220, 220);
        int[] two = {300, 10, 310, 10};
        dueFault("flat, and crossed", 1, bow, two);
        dueFault("flat, and outside", 1, big, away, two);
        dueFault("flat, and within", 1, Told.box(0, 0, 400, 400), away, inAway, two);
        dueFault("crossed, and outside", 2, bow, away);
        dueFault("crossed, and within", 2, Told.box(0, 0, 400, 400), away, inAway, new int[] {10, 10, 50, 50, 50, 10,
            10, 50});
        dueFault("outside, and within", 3, big, away, inAway);
        dueFault("hole 1 within hole 2, hole 3 outside", 3, Told.box(0, 0, 100, 100), Told.box(20, 20, 30, 30),
                Told.box(10, 10, 40, 40), away);
    }

    private void flatWithoutOutside() {
        due.of("Terms", "1 FLAT: ring 0 has no corners");
        dueFault("no ring", 1);
        for (int hole = 1; hole <= 3; hole++) {
            int[][] rings = {NO_RING, NO_RING, NO_RING, NO_RING};
            rings[hole] = Told.box(10, 10, 20, 20);
            dueFault("hole " + hole + " alone", 1, rings);
        }
    }

    private void flatOfTooFew() {
        due.of("Terms", "a ring that has some has fewer than three");
        int[] big = Told.box(0, 0, 100, 100);
        int[][] few = {{50, 50}, {50, 50, 60, 55}};
        for (int[] row : few) {
            dueFault("ring 0 of " + row.length / 2, 1, row);
            dueFault("ring 1 of " + row.length / 2, 1, big, row);
            dueFault("ring 2 of " + row.length / 2, 1, big, NO_RING, row);
            dueFault("ring 3 of " + row.length / 2, 1, big, NO_RING, NO_RING, row);
        }
        int[] three = {50, 50, 60, 55, 50, 60};
        dueFault("ring 0 of three", 0, three);
        dueFault("ring 3 of three", 0, big, NO_RING, NO_RING, three);
    }

    private void flatOnOneLine() {
        due.of("Terms", "or all of them on one line");
        int[] big = Told.box(0, 0, 600, 600);
        int[][] lines = {{10, 50, 20, 50, 30, 50}, {50, 10, 50, 30, 50, 20}, {10, 10, 30, 20, 20, 15},
            {40, 10, 10, 40, 20, 30, 30, 20}, {50, 50, 50, 50, 50, 50}, {50, 50, 60, 60, 50, 50, 60, 60}};
        for (int[] line : lines) {
            dueFault("ring 0 on one line", 1, line);
            dueFault("ring 1 on one line", 1, big, line);
            dueFault("ring 3 on one line", 1, big, NO_RING, NO_RING, line);
        }
        int[] full = new int[48];
        for (int i = 0; i < 24; i++) {
            full[2 * i] = 24 * i;
            full[2 * i + 1] = 25 * i;
        }
        dueFault("24 corners on one line", 1, full);
    }

    private void notQuiteOnOneLine() {
        due.of("Terms", "or all of them on one line");
        dueFault("the last corner is not on it", 0, new int[] {0, 0, 10, 0, 20, 0, 20, 10});
        dueFault("the first corner is not on it", 0, new int[] {5, 9, 0, 0, 10, 0, 20, 0});
        dueFault("the second corner is not on it", 0, new int[] {0, 0, 5, 9, 20, 0, 10, 0});
        dueFault("hardly beside it", 0, new int[] {0, 0, 599, 598, 600, 599});
        dueFault("hardly beside it, in a hole", 0, Told.box(0, 0, 600, 600), new int[] {1, 1, 598, 597, 599, 598});
        int[] full = new int[48];
        for (int i = 0; i < 24; i++) {
            full[2 * i] = 24 * i;
        }
        full[47] = 1;
        dueFault("23 on one line and one beside it", 0, full);
        dueFault("first two corners in one place", 2, new int[] {5, 5, 5, 5, 9, 5, 5, 9});
    }

    private void dueRails(int fault, int one, int two) {
        StitchDesk desk = new StitchDesk();
        desk.begin(0, 1, 4, 0);
        for (int i = 0; i < one; i++) {
            desk.rail(0, 10 * i, 0);
        }
        for (int i = 0; i < two; i++) {
            desk.rail(1, 10 * i, 50);
        }
        due.is("rails of " + one + " and " + two, desk.end(), fault);
        due.is("rails of " + one + " and " + two + ": shapes", desk.count(0), 1 - fault);
        due.is("rails of " + one + " and " + two + ": fault(1)", desk.fault(1), -1);
    }

    private void flatRails() {
        due.of("Terms", "(of fill 1 this alone:) its rails have not as many corners, or fewer than two");
        for (int one = 0; one <= 16; one++) {
            for (int two = 0; two <= 16; two++) {
                dueRails(one == two && one >= 2 ? 0 : 1, one, two);
            }
        }
        StitchDesk desk = new StitchDesk();
        due.is("rails on one line", Told.satin(desk, 0, 4, new int[] {0, 0, 9, 9}, new int[] {20, 20, 12, 12}), 0);
        due.is("rails in one place", Told.satin(desk, 0, 4, new int[] {5, 5, 5, 5}, new int[] {5, 5, 5, 5}), 0);
        due.is("rails that cross", Told.satin(desk, 0, 4, new int[] {0, 0, 9, 9}, new int[] {9, 0, 0, 9}), 0);
        due.is("a rail that crosses itself", Told.satin(desk, 0, 4, new int[] {0, 0, 9, 9, 9, 0, 0, 9},
                new int[] {20, 0, 20, 1, 20, 2, 20, 3}), 0);
    }

    private void crossed() {
        due.of("Terms", "2 CROSSED: two of its edges share a point");
        int[] big = Told.box(0, 0, 100, 100);
        dueCrossed("edges that cross", 0, 2, new int[] {0, 0, 40, 40, 40, 0, 0, 40});
        dueCrossed("edges of all the places that cross", 0, 2, new int[] {0, 0, 600, 600, 600, 0, 0, 600});
        dueCrossed("a corner on an edge", 0, 2, new int[] {0, 0, 40, 0, 40, 20, 20, 0, 0, 20});
        dueCrossed("a corner on a slanted edge", 0, 2, new int[] {0, 0, 60, 40, 60, 60, 30, 20, 0, 60});
        dueCrossed("a corner on a corner", 1, 3, new int[] {0, 40, 0, 0, 20, 20, 40, 0, 20, 20, 40, 40});
        dueCrossed("an edge along another", 0, 3, new int[] {0, 0, 40, 0, 50, 9, 50, 0, 10, 0, 0, 9});
        dueCrossed("ends of two edges on one line", 0, 2, new int[] {0, 0, 20, 0, 30, 9, 20, 0, 40, 0, 20, 40});
        dueCrossed("a hole through the outside", 1, 4, big, new int[] {50, 50, 150, 50, 50, 60});
        dueCrossed("a hole's corner on the outside", 3, 4, big, new int[] {0, 50, 10, 50, 10, 60});
        dueCrossed("a hole's corner on the outside's corner", 0, 4, big, new int[] {0, 0, 20, 10, 10, 20});
        dueCrossed("a hole along the outside", 0, 4, big, Told.box(20, 0, 40, 20));
        dueCrossed("two holes", 5, 8, big, Told.box(10, 10, 20, 20), Told.box(15, 15, 25, 25));
        dueCrossed("two holes that touch", 4, 8, big, Told.box(10, 10, 20, 20), new int[] {15, 10, 18, 5, 12, 5});
        dueCrossed("holes 2 and 3", 4, 8, big, NO_RING, Told.box(10, 10, 20, 20), Told.box(10, 10, 20, 20));
    }

    private void notQuiteCrossed() {
        due.of("Terms", "2 CROSSED: two of its edges share a point");
        int[] big = Told.box(0, 0, 100, 100);
        dueFault("edges apart on one line", 0, new int[] {0, 0, 10, 0, 15, 5, 20, 0, 30, 0, 15, 30});
        dueFault("edges apart on one slanted line", 0, new int[] {0, 0, 10, 10, 20, 10, 20, 20, 30, 30, 0, 40});
        dueFault("lines that meet behind an edge's end", 0, new int[] {0, 0, 40, 0, 40, 40, 20, 1, 0, 40});
        dueFault("a corner hardly beside an edge", 0, new int[] {0, 0, 600, 0, 600, 599},
                new int[] {599, 598, 599, 590, 598, 590});
        dueFault("a hole beside the outside", 0, big, Told.box(1, 1, 99, 99));
        dueFault("holes beside one another", 0, big, Told.box(10, 10, 20, 20), Told.box(21, 10, 30, 20),
                Told.box(10, 21, 30, 30));
    }

    private void neighboursThatMay() {
        due.of("Terms", "but two neighbours in a ring may share the corner between them");
        dueFault("three edges, all of them neighbours", 0, new int[] {0, 0, 40, 0, 0, 40});
        dueFault("an edge straight on", 0, new int[] {0, 0, 20, 0, 40, 0, 20, 30});
        dueFault("straight on from the last edge to the first", 0, new int[] {20, 0, 40, 0, 20, 30, 0, 0});
        dueFault("straight on and slanted", 0, new int[] {0, 0, 20, 10, 60, 30, 20, 30});
        dueFault("a very sharp corner", 0, new int[] {0, 0, 600, 1, 0, 1});
        dueFault("a sharp corner between last and first", 0, new int[] {600, 1, 0, 1, 0, 0});
    }

    private void neighboursThatMayNot() {
        due.of("Terms", "if they share nothing else");
        dueCrossed("an edge that turns back", 0, 1, new int[] {0, 0, 40, 0, 20, 0, 20, 30});
        dueCrossed("an edge that turns back by one", 0, 1, new int[] {0, 0, 40, 0, 39, 0, 20, 30});
        dueCrossed("an edge of length 1 that turns back", 0, 1, new int[] {0, 0, 1, 0, 0, 0, 0, 5});
        dueCrossed("an upright edge of length 1 that turns back", 0, 1, new int[] {0, 1, 0, 0, 0, 1, 5, 0});
        dueCrossed("an edge that turns back to where it came from", 0, 1, new int[] {0, 0, 40, 0, 0, 0, 20, 30});
        dueCrossed("an edge that turns back further", 0, 1, new int[] {10, 10, 40, 10, 0, 10, 20, 30});
        dueCrossed("an upright edge that turns back", 1, 2, new int[] {40, 20, 0, 0, 0, 50, 0, 20});
        dueCrossed("a slanted edge that turns back", 0, 1, new int[] {0, 0, 60, 40, 30, 20, 0, 30});
        dueCrossed("the last edge along the first", 0, 3, new int[] {0, 0, 40, 0, 50, 30, 60, 0});
        dueCrossed("the last two edges", 3, 4, new int[] {0, 0, 60, 0, 60, 60, 30, 60, 30, 30, 30, 40});
    }

    private void noNeighbours() {
        due.of("Terms", "but two neighbours in a ring may share the corner between them");
        dueCrossed("round a corner told twice", 0, 2, new int[] {0, 0, 40, 0, 40, 0, 0, 40});
        dueCrossed("round the last corner told twice", 1, 3, new int[] {0, 0, 40, 0, 0, 40, 0, 40});
        dueCrossed("round corner 0 told again as the last", 0, 2, new int[] {40, 0, 0, 40, 0, 0, 40, 0});
        dueCrossed("numbers side by side in two rings", 3, 4, Told.box(0, 0, 100, 100),
                new int[] {0, 50, 10, 40, 10, 60});
    }

    /** A hole's first edge goes out, or comes in, through each side of the outside, told both ways round. */
    private void crossedAtEachSide() {
        due.of("Terms", "2 CROSSED: two of its edges share a point");
        int[] box = Told.box(100, 100, 200, 200);
        int[] backward = {100, 100, 100, 200, 200, 200, 200, 100};
        int[][] holes = {{150, 150, 150, 50, 160, 150}, {150, 150, 250, 150, 150, 160}, {150, 150, 150, 250, 160, 150},
            {150, 150, 50, 150, 150, 160}};
        int[] sidesOfBackward = {3, 2, 1, 0};
        for (int side = 0; side < 4; side++) {
            int[] out = holes[side];
            int[] in = {out[2], out[3], out[0], out[1], out[4], out[5]};
            dueCrossed("out at side " + side, side, 4, box, out);
            dueCrossed("in at side " + side, side, 4, box, in);
            dueCrossed("out at side " + side + ", backward", sidesOfBackward[side], 4, backward, out);
            dueCrossed("in at side " + side + ", backward", sidesOfBackward[side], 4, backward, in);
        }
        int[] xs = {0, 40, 40, 0};
        int[] ys = {0, 40, 0, 40};
        for (int start = 0; start < 4; start++) {
            int[] bow = new int[8];
            int[] turned = new int[8];
            for (int i = 0; i < 4; i++) {
                bow[2 * i] = xs[(start + i) % 4];
                bow[2 * i + 1] = ys[(start + i) % 4];
                turned[2 * i] = ys[(start + i) % 4];
                turned[2 * i + 1] = xs[(start + i) % 4];
            }
            dueCrossed("a bow from corner " + start, start % 2, 2 + start % 2, bow);
            dueCrossed("a bow turned, from corner " + start, start % 2, 2 + start % 2, turned);
        }
    }

    private void outside() {
        due.of("Terms", "3 OUTSIDE: corner 0 of a hole is not inside ring 0.");
        int[] big = Told.box(10, 10, 100, 100);
        int[] in = Told.box(20, 20, 30, 30);
        int[][] away = {Told.box(0, 50, 5, 55), Told.box(105, 50, 120, 60), Told.box(50, 0, 60, 5),
            Told.box(50, 105, 60, 120), Told.box(0, 0, 600, 600)};
        for (int[] hole : away) {
            dueFault("hole 1 is not in it", 3, big, hole);
            dueFault("hole 2 is not in it", 3, big, in, hole);
            dueFault("hole 3 is not in it", 3, big, NO_RING, in, hole);
        }
        dueFault("a hole in it", 0, big, NO_RING, NO_RING, in);
        int[] bay = {0, 0, 20, 0, 20, 40, 60, 40, 60, 20, 80, 20, 80, 80, 0, 80};
        dueFault("a hole in a bay", 3, bay, new int[] {40, 20, 45, 25, 35, 25});
        dueFault("a hole below a bay", 0, bay, new int[] {40, 50, 45, 60, 35, 60});
    }

    private void outsideByCorner0() {
        due.of("Terms", "3 OUTSIDE: corner 0 of a hole is not inside ring 0.");
        int[] diamond = {100, 0, 200, 100, 100, 200, 0, 100};
        // (180, 10), of one corner's x and another one's y, is not in the diamond.
        dueFault("corners 0 and 1 far apart", 0, diamond, new int[] {100, 10, 180, 100, 100, 100});
        dueFault("corners 1 and 0 far apart", 0, diamond, new int[] {180, 100, 100, 10, 100, 100});
        dueFault("corners 2 and 0 far apart", 0, diamond, new int[] {180, 100, 100, 100, 100, 10});
        dueFault("in the diamond's box alone", 3, diamond, new int[] {180, 10, 190, 10, 190, 20});
        dueFault("in the diamond's box, left", 3, diamond, new int[] {10, 180, 20, 190, 10, 190});
    }

    private void insideNotOnEdges() {
        due.of("Terms", "A place is INSIDE a ring if it lies on none of its edges");
        StitchDesk desk = new StitchDesk();
        Told.hatch(desk, 0, 4, 0, Told.box(0, 0, 80, 80), Told.box(20, 20, 60, 60));
        for (int k = 20; k <= 60; k++) {
            due.is("the hole's upper edge", desk.under(k, 20), 0);
            due.is("the hole's lower edge", desk.under(k, 60), 0);
            due.is("the hole's left edge", desk.under(20, k), 0);
            due.is("the hole's right edge", desk.under(60, k), 0);
        }
        for (int k = 21; k <= 59; k++) {
            due.is("below the upper edge", desk.under(k, 21), -1);
            due.is("above the lower edge", desk.under(k, 59), -1);
            due.is("right of the left edge", desk.under(21, k), -1);
            due.is("left of the right edge", desk.under(59, k), -1);
        }
    }

    private void within() {
        due.of("Terms", "4 WITHIN: corner 0 of a hole is inside another hole.");
        int[] big = Told.box(0, 0, 100, 100);
        int[] hole = Told.box(10, 10, 50, 50);
        int[] inHole = Told.box(20, 20, 30, 30);
        int[] beside = Told.box(60, 60, 70, 70);
        for (int outer = 1; outer <= 3; outer++) {
            for (int inner = 1; inner <= 3; inner++) {
                if (outer == inner) {
                    continue;
                }
                int[][] rings = {big, NO_RING, NO_RING, NO_RING};
                rings[outer] = hole;
                rings[inner] = inHole;
                dueFault("hole " + inner + " in hole " + outer, 4, rings);
                rings[6 - outer - inner] = beside;
                dueFault("hole " + inner + " in hole " + outer + ", and one beside", 4, rings);
            }
        }
        dueFault("three in one another", 4, big, hole, inHole, Told.box(24, 24, 26, 26));
        dueFault("three beside one another", 0, big, beside, inHole, Told.box(40, 20, 50, 30));
    }

    private void dueUnder(int want, int[] ring, int... places) {
        StitchDesk desk = new StitchDesk();
        due.is("a ring for places", Told.hatch(desk, 0, 4, 0, ring), 0);
        for (int i = 0; i < places.length; i += 2) {
            due.is("under(" + places[i] + ", " + places[i + 1] + ")", desk.under(places[i], places[i + 1]), want);
        }
    }

    private void insideAtHeightOfCorners() {
        due.of("Terms", "have y1 above y and y2 not, or y2 above y and y1 not");
        int[] tops = {0, 100, 20, 0, 50, 50, 80, 0, 100, 100};
        dueUnder(0, tops, 30, 50, 70, 50, 50, 51, 11, 50, 89, 50, 20, 0, 80, 0);
        dueUnder(-1, tops, 50, 0, 0, 0, 100, 0, 9, 50, 91, 50, 50, 49, 21, 0, 79, 0);
        int[] dent = {0, 0, 100, 0, 80, 50, 100, 100, 0, 100};
        dueUnder(0, dent, 10, 50, 79, 50, 80, 50);
        dueUnder(-1, dent, 81, 50, 90, 50, 100, 50);
        int[] bay = {0, 0, 20, 0, 20, 40, 60, 40, 60, 20, 80, 20, 80, 80, 0, 80};
        dueUnder(0, bay, 10, 20, 10, 40, 70, 40, 40, 40, 60, 30, 70, 20, 1, 79);
        dueUnder(-1, bay, 40, 20, 21, 20, 59, 20, 21, 0, 60, 0, 80, 0, 40, 39, 61, 19);
        int[] backward = {0, 80, 80, 80, 80, 20, 60, 20, 60, 40, 20, 40, 20, 0, 0, 0};
        dueUnder(0, backward, 10, 20, 10, 40, 70, 40, 40, 40, 60, 30, 70, 20, 1, 79);
        dueUnder(-1, backward, 40, 20, 21, 20, 59, 20, 21, 0, 60, 0, 80, 0, 40, 39, 61, 19);
    }

    private void insideByRightPoints() {
        due.of("Terms", "and their point at the height y is to the right of x");
        int[] falling = {0, 0, 7, 3, 0, 3};
        dueUnder(0, falling, 0, 0, 2, 1, 4, 2, 7, 3);
        dueUnder(-1, falling, 3, 1, 5, 2, 1, 0, 7, 2);
        int[] rising = {7, 0, 7, 3, 0, 3};
        dueUnder(0, rising, 5, 1, 3, 2, 7, 0, 0, 3);
        dueUnder(-1, rising, 4, 1, 2, 2, 6, 0, 0, 2);
        int[] wide = {0, 0, 600, 599, 0, 599};
        dueUnder(0, wide, 0, 0, 598, 598, 300, 300);
        dueUnder(-1, wide, 599, 598, 600, 598, 1, 0);
    }

    private void inOnEdge() {
        due.of("Terms", "A place is IN a shape if it lies on an edge of one of its rings");
        StitchDesk desk = new StitchDesk();
        Told.outline(desk, 0, new int[] {10, 10, 70, 50, 10, 90}, new int[] {20, 40, 40, 50, 20, 60});
        int[][] on = {{10, 10}, {40, 30}, {70, 50}, {40, 70}, {10, 90}, {10, 50}, {20, 40}, {30, 45}, {40, 50},
            {30, 55}, {20, 50}};
        for (int[] place : on) {
            due.is("on an edge, (" + place[0] + ", " + place[1] + ")", desk.under(place[0], place[1]), 0);
        }
        int[][] off = {{40, 29}, {41, 30}, {71, 50}, {9, 50}, {10, 9}, {30, 50}, {21, 50}, {30, 46}, {39, 50}};
        for (int[] place : off) {
            due.is("beside an edge, (" + place[0] + ", " + place[1] + ")", desk.under(place[0], place[1]), -1);
        }
    }

    private void inOdd() {
        due.of("Terms", "or is inside an odd number of them");
        StitchDesk desk = new StitchDesk();
        Told.hatch(desk, 0, 4, 0, Told.box(0, 0, 100, 100), Told.box(10, 10, 30, 30), Told.box(40, 40, 60, 60),
                Told.box(70, 70, 90, 90));
        due.is("inside one", desk.under(5, 5), 0);
        due.is("inside one, between holes", desk.under(35, 35), 0);
        due.is("inside two: hole 1", desk.under(20, 20), -1);
        due.is("inside two: hole 2", desk.under(50, 50), -1);
        due.is("inside two: hole 3", desk.under(80, 80), -1);
        due.is("inside none", desk.under(101, 50), -1);
    }

    private void inSatin() {
        due.of("Terms", "(Of fill 1 a ring is taken that has the corners of rail 0 in their order, "
                + "then those of rail 1 from the last one to the first.)");
        StitchDesk desk = new StitchDesk();
        Told.satin(desk, 0, 10, new int[] {0, 0, 20, 10, 40, 0}, new int[] {0, 40, 20, 30, 40, 40});
        int[][] in = {{0, 20}, {40, 20}, {20, 20}, {20, 10}, {20, 30}, {10, 5}, {1, 39}, {39, 1}};
        for (int[] place : in) {
            due.is("in it, (" + place[0] + ", " + place[1] + ")", desk.under(place[0], place[1]), 0);
        }
        due.is("above rail 0", desk.under(20, 9), -1);
        due.is("below rail 1", desk.under(20, 31), -1);
        StitchDesk crossing = new StitchDesk();
        Told.satin(crossing, 0, 10, new int[] {0, 0, 40, 40}, new int[] {40, 0, 0, 40});
        due.is("in the upper half", crossing.under(20, 10), 0);
        due.is("in the lower half", crossing.under(20, 30), 0);
        due.is("at the left", crossing.under(10, 20), -1);
        due.is("at the right", crossing.under(30, 20), -1);
        StitchDesk flat = new StitchDesk();
        Told.satin(flat, 0, 10, new int[] {10, 10, 20, 20}, new int[] {30, 30, 40, 40});
        due.is("on a flat one", flat.under(25, 25), 0);
        due.is("at its end", flat.under(40, 40), 0);
        due.is("beside it", flat.under(25, 26), -1);
        due.is("behind its end", flat.under(41, 41), -1);
    }

    /** A rail's edge from a place to itself has that place alone. */
    private void inSatinOfNoLength() {
        due.of("Terms", "A place is IN a shape if it lies on an edge of one of its rings");
        int[][] rails = {{120, 120, 120, 120}, {120, 120, 160, 120}, {120, 120, 120, 160}, {120, 120, 80, 80}};
        for (int[] other : rails) {
            StitchDesk desk = new StitchDesk();
            Told.satin(desk, 0, 10, new int[] {120, 120, 120, 120}, other);
            due.is("the place itself", desk.under(120, 120), 0);
            int[][] beside = {{121, 119}, {119, 121}, {120, 119}, {119, 120}};
            for (int[] place : beside) {
                due.is("beside it", desk.under(place[0], place[1]), -1);
            }
            due.is("right of it", desk.under(121, 120), other[2] > 120 ? 0 : -1);
            due.is("below it", desk.under(120, 121), other[3] > 120 ? 0 : -1);
            due.is("left above it", desk.under(119, 119), other[2] < 120 ? 0 : -1);
        }
    }

    private void dueBox(StitchDesk desk, int left, int top, int right, int bottom) {
        int n = desk.count(0) - 1;
        int[] want = {left, top, right, bottom};
        for (int what = 4; what < 8; what++) {
            due.is("shape(" + n + ", " + what + ")", desk.shape(n, what), want[what - 4]);
        }
    }

    private void box() {
        due.of("Terms", "The BOX of a shape is the least rectangle with all of its corners.");
        StitchDesk desk = new StitchDesk();
        Told.outline(desk, 0, new int[] {30, 20, 90, 25, 60, 110});
        dueBox(desk, 30, 20, 90, 110);
        Told.outline(desk, 0, new int[] {60, 110, 90, 25, 30, 20});
        dueBox(desk, 30, 20, 90, 110);
        Told.hatch(desk, 0, 20, 0, Told.box(0, 0, 600, 600), Told.box(10, 10, 20, 20));
        dueBox(desk, 0, 0, 600, 600);
        Told.hatch(desk, 0, 20, 0, new int[] {599, 599, 600, 599, 600, 600});
        dueBox(desk, 599, 599, 600, 600);
        Told.hatch(desk, 0, 20, 0, new int[] {0, 0, 1, 0, 0, 1});
        dueBox(desk, 0, 0, 1, 1);
    }

    private void boxOfRails() {
        due.of("Terms", "The BOX of a shape is the least rectangle with all of its corners.");
        StitchDesk desk = new StitchDesk();
        Told.satin(desk, 0, 20, new int[] {5, 70, 60, 80}, new int[] {40, 20, 90, 95});
        dueBox(desk, 5, 20, 90, 95);
        Told.satin(desk, 0, 20, new int[] {40, 20, 90, 95}, new int[] {60, 80, 5, 70});
        dueBox(desk, 5, 20, 90, 95);
        Told.satin(desk, 0, 20, new int[] {600, 600, 600, 600}, new int[] {600, 600, 600, 600});
        dueBox(desk, 600, 600, 600, 600);
        Told.satin(desk, 0, 20, new int[] {0, 0, 0, 0}, new int[] {0, 0, 0, 0});
        dueBox(desk, 0, 0, 0, 0);
    }

    /** Of colours 1, 2, 1 the middle one can go ahead or behind, unless it meets both of the others. */
    private void meet() {
        due.of("Terms", "Two shapes MEET if their boxes share a place.");
        int[][] mates = {{110, 100, 120, 110}, {110, 110, 120, 120}, {100, 110, 110, 120}, {90, 110, 100, 120},
            {90, 100, 100, 110}, {90, 90, 100, 100}, {100, 90, 110, 100}, {110, 90, 120, 100}, {102, 102, 108, 108},
            {90, 90, 120, 120}, {90, 104, 120, 106}, {104, 90, 106, 120}};
        for (int[] m : mates) {
            due.is("boxes that share a place", changesOf(m), 2);
        }
        int[][] apart = {{111, 100, 120, 110}, {111, 111, 120, 120}, {100, 111, 110, 120}, {90, 100, 99, 110},
            {90, 90, 99, 99}, {100, 90, 110, 99}, {111, 90, 120, 99}, {90, 111, 99, 120}};
        for (int[] m : apart) {
            due.is("boxes that share none", changesOf(m), 1);
        }
        StitchDesk desk = new StitchDesk();
        Told.outline(desk, 1, new int[] {0, 0, 100, 0, 0, 100});
        Told.outline(desk, 2, new int[] {100, 100, 100, 90, 90, 100});
        Told.outline(desk, 1, new int[] {0, 0, 100, 0, 0, 100});
        due.is("no place of the shapes themselves is shared", desk.reorder(), 2);
    }

    private static int changesOf(int[] mate) {
        StitchDesk desk = new StitchDesk();
        Told.outline(desk, 1, Told.box(100, 100, 110, 110));
        Told.outline(desk, 2, Told.box(mate[0], mate[1], mate[2], mate[3]));
        Told.satin(desk, 1, 4, new int[] {100, 100, 110, 100}, new int[] {100, 110, 110, 110});
        return desk.reorder();
    }
}
