import java.util.NoSuchElementException;

/** Promises 1 to 8: a new desk, and shapes told, looked over and counted. */
public final class ShapeTest {
    private static final Class<IllegalStateException> STATE = IllegalStateException.class;
    private static final Class<IllegalArgumentException> ARGUMENT = IllegalArgumentException.class;
    private static final Class<UnsupportedOperationException> UNSUPPORTED = UnsupportedOperationException.class;

    private final Due due = new Due();

    public static void main(String[] args) {
        ShapeTest test = new ShapeTest();
        test.newDesk();
        test.begin();
        test.tenShapes();
        test.corner();
        test.rail();
        test.end();
        test.flat();
        test.flatRails();
        test.crossed();
        test.neighbours();
        test.leastPair();
        test.outside();
        test.within();
        test.holesThatAreGone();
        test.faultOrder();
        test.faultOfLatest();
        test.shapeNumbers();
        test.hatchCounts();
        test.satinCounts();
        test.count();
        test.due.finish();
    }

    private void newDesk() {
        StitchDesk desk = new StitchDesk();
        for (int what = 0; what < 4; what++) {
            due.is("new: count(" + what + ")", desk.count(what), 0);
        }
        due.is("NONE", StitchDesk.NONE, -1);
        due.is("new: fault(0)", desk.fault(0), 0);
        due.is("new: fault(1)", desk.fault(1), -1);
        due.is("new: fault(2)", desk.fault(2), -1);
        due.is("new: order(0)", desk.order(0), -1);
        due.is("new: under(0, 0)", desk.under(0, 0), -1);
        due.is("new: stop(0)", desk.stop(0), -1);
        due.is("new: thread(0)", desk.thread(0), 0);
        due.is("new: needle(0, 0)", desk.needle(0, 0), 0);
        due.is("new: hoop(0, 0)", desk.hoop(0, 0), true);
        due.isThrown("new: end()", STATE, desk::end);
        due.isThrown("new: corner(0, 0, 0)", STATE, () -> desk.corner(0, 0, 0));
        due.isThrown("new: rail(0, 0, 0)", STATE, () -> desk.rail(0, 0, 0));
        due.isThrown("new: shape(0, 0)", NoSuchElementException.class, () -> desk.shape(0, 0));
        due.isThrown("new: record(0, 0)", IndexOutOfBoundsException.class, () -> desk.record(0, 0));
        due.isThrown("new: byteAt(0)", IndexOutOfBoundsException.class, () -> desk.byteAt(0));
        due.is("new: reorder()", desk.reorder(), 0);
        due.is("new: decode()", desk.decode(), 0);
        due.is("new: stitch()", desk.stitch(), 0);
    }

    private void begin() {
        StitchDesk desk = new StitchDesk();
        int[][] wrong = {{-1, 0, 4, 0}, {8, 0, 4, 0}, {0, -1, 4, 0}, {0, 3, 4, 0}, {0, 0, 3, 0}, {0, 0, 21, 0},
            {0, 0, 4, -1}, {0, 0, 4, 4}, {Integer.MIN_VALUE, 0, 4, 0}, {0, 0, Integer.MAX_VALUE, 0}};
        for (int[] w : wrong) {
            due.isThrown("begin of wrong numbers", ARGUMENT, () -> desk.begin(w[0], w[1], w[2], w[3]));
        }
        due.is("begin that throws opens none", desk.count(3), 0);
        desk.begin(7, 2, 20, 3);
        due.is("begin opens a shape", desk.count(3), 1);
        due.isThrown("begin with one open", STATE, () -> desk.begin(0, 0, 4, 0));
        due.isThrown("begin with one open, wrong numbers", STATE, () -> desk.begin(9, 0, 4, 0));
        desk.end();
        desk.begin(0, 0, 4, 0);
        due.is("corners of a shape that is gone are gone", desk.corner(0, 1, 1), 1);
    }

    private void tenShapes() {
        StitchDesk desk = new StitchDesk();
        for (int n = 0; n < 10; n++) {
            due.is("shape " + n + " is taken", Told.outline(desk, 0, Told.box(n, n, n + 5, n + 5)), 0);
        }
        due.isThrown("the eleventh begin", UNSUPPORTED, () -> desk.begin(0, 0, 4, 0));
        due.isThrown("the eleventh begin, wrong numbers", UNSUPPORTED, () -> desk.begin(0, 9, 4, 0));
        due.is("ten shapes", desk.count(0), 10);
        due.is("none open", desk.count(3), 0);
        due.is("order(9)", desk.order(9), 9);
    }

    private void corner() {
        StitchDesk desk = new StitchDesk();
        desk.begin(0, 0, 4, 0);
        due.is("first corner", desk.corner(0, 0, 0), 1);
        due.is("first corner of a hole", desk.corner(3, 600, 600), 1);
        int[][] wrong = {{-1, 0, 0}, {4, 0, 0}, {0, -1, 0}, {0, 601, 0}, {0, 0, -1}, {0, 0, 601}};
        for (int[] w : wrong) {
            due.isThrown("corner of wrong numbers", ARGUMENT, () -> desk.corner(w[0], w[1], w[2]));
        }
        for (int k = 2; k <= 24; k++) {
            due.is("corner " + k, desk.corner(0, k, 0), k);
        }
        due.isThrown("corner 25", UNSUPPORTED, () -> desk.corner(0, 5, 5));
        due.isThrown("corner 25, no place", ARGUMENT, () -> desk.corner(0, 601, 5));
        due.is("another ring has room", desk.corner(1, 5, 5), 1);
        due.isThrown("a rail with fill 0", STATE, () -> desk.rail(0, 0, 0));
        due.isThrown("a rail with fill 0, no such rail", STATE, () -> desk.rail(9, 0, 0));
        desk.end();
        due.isThrown("corner behind end", STATE, () -> desk.corner(0, 0, 0));
        desk.begin(0, 2, 4, 0);
        due.isThrown("a rail with fill 2", STATE, () -> desk.rail(0, 0, 0));
        due.is("a corner with fill 2", desk.corner(0, 0, 0), 1);
    }

    private void rail() {
        StitchDesk desk = new StitchDesk();
        desk.begin(0, 1, 4, 0);
        due.isThrown("a corner with fill 1", STATE, () -> desk.corner(0, 0, 0));
        due.isThrown("a corner with fill 1, no such ring", STATE, () -> desk.corner(7, 0, 0));
        int[][] wrong = {{-1, 0, 0}, {2, 0, 0}, {0, -1, 0}, {0, 601, 0}, {1, 0, -1}, {1, 0, 601}};
        for (int[] w : wrong) {
            due.isThrown("rail of wrong numbers", ARGUMENT, () -> desk.rail(w[0], w[1], w[2]));
        }
        for (int k = 1; k <= 16; k++) {
            due.is("rail 0, corner " + k, desk.rail(0, k, 600), k);
        }
        due.isThrown("rail 0, corner 17", UNSUPPORTED, () -> desk.rail(0, 0, 0));
        due.isThrown("rail 0, corner 17, no place", ARGUMENT, () -> desk.rail(0, 0, 601));
        for (int k = 1; k <= 16; k++) {
            due.is("rail 1, corner " + k, desk.rail(1, 600 - k, 0), k);
        }
        due.is("rails of 16 are taken", desk.end(), 0);
        due.isThrown("rail behind end", STATE, () -> desk.rail(0, 0, 0));
    }

    private void end() {
        StitchDesk desk = new StitchDesk();
        due.is("first", Told.outline(desk, 1, Told.box(0, 0, 9, 9)), 0);
        due.is("of one corner", Told.outline(desk, 2, new int[] {5, 5}), 1);
        due.is("second", Told.outline(desk, 3, Told.box(0, 0, 9, 9)), 0);
        due.is("two are kept", desk.count(0), 2);
        due.is("colour of the second", desk.shape(1, 0), 3);
        due.is("order(0)", desk.order(0), 0);
        due.is("order(1)", desk.order(1), 1);
        due.is("order(2)", desk.order(2), -1);
        due.is("none is open", desk.count(3), 0);
        due.isThrown("end with none open", STATE, desk::end);
    }

    private int faultOf(int[]... rings) {
        return Told.outline(new StitchDesk(), 0, rings);
    }

    private void flat() {
        int[] none = {};
        int[] big = Told.box(0, 0, 100, 100);
        due.is("no corners at all", faultOf(), 1);
        due.is("a hole alone", faultOf(none, Told.box(5, 5, 9, 9)), 1);
        due.is("one corner", faultOf(new int[] {5, 5}), 1);
        due.is("two corners", faultOf(new int[] {5, 5, 9, 5}), 1);
        due.is("three on one line", faultOf(new int[] {0, 0, 10, 5, 20, 10}), 1);
        due.is("three upright", faultOf(new int[] {7, 0, 7, 5, 7, 3}), 1);
        due.is("all corners one place", faultOf(new int[] {7, 7, 7, 7, 7, 7}), 1);
        due.is("two places, three corners", faultOf(new int[] {7, 7, 9, 9, 7, 7}), 1);
        due.is("there and back", faultOf(new int[] {0, 0, 8, 4, 0, 0, 6, 3}), 1);
        due.is("nearly on one line", faultOf(new int[] {0, 0, 10, 5, 20, 11}), 0);
        due.is("corner 0 between two others", faultOf(new int[] {5, 5, 9, 5, 5, 5, 5, 9}), 2);
        due.is("a hole of two corners", faultOf(big, new int[] {5, 5, 9, 9}), 1);
        due.is("a hole on one line", faultOf(big, none, none, new int[] {5, 5, 9, 9, 7, 7}), 1);
    }

    private void flatRails() {
        StitchDesk desk = new StitchDesk();
        due.is("no rails", Told.satin(desk, 0, 4), 1);
        due.is("rails of one", Told.satin(desk, 0, 4, new int[] {1, 1}, new int[] {5, 5}), 1);
        due.is("2 and 1", Told.satin(desk, 0, 4, new int[] {1, 1, 5, 1}, new int[] {5, 5}), 1);
        due.is("2 and 3", Told.satin(desk, 0, 4, new int[] {1, 1, 5, 1}, new int[] {1, 5, 5, 5, 9, 9}), 1);
        due.is("rails on one line", Told.satin(desk, 0, 4, new int[] {1, 1, 5, 1}, new int[] {7, 1, 9, 1}), 0);
        due.is("rails that cross", Told.satin(desk, 0, 4, new int[] {0, 0, 9, 9}, new int[] {9, 0, 0, 9}), 0);
        due.is("rails in one place", Told.satin(desk, 0, 4, new int[] {3, 3, 3, 3}, new int[] {3, 3, 3, 3}), 0);
        due.is("three are kept", desk.count(0), 3);
    }

    private void dueCrossed(String what, int first, int second, int[]... rings) {
        StitchDesk desk = new StitchDesk();
        due.is(what, Told.hatch(desk, 0, 4, 0, rings), 2);
        due.is(what + ": fault(0)", desk.fault(0), 2);
        due.is(what + ": fault(1)", desk.fault(1), first);
        due.is(what + ": fault(2)", desk.fault(2), second);
        due.is(what + ": fault(3)", desk.fault(3), -1);
        due.is(what + ": fault(-1)", desk.fault(-1), -1);
        due.is(what + ": it is gone", desk.count(0), 0);
    }

    private void crossed() {
        int[] big = Told.box(0, 0, 100, 100);
        dueCrossed("a bow", 0, 2, new int[] {0, 0, 40, 40, 40, 0, 0, 40});
        dueCrossed("a corner on an edge", 0, 2, new int[] {0, 0, 40, 0, 40, 20, 20, 0, 0, 20});
        dueCrossed("edges along one another", 0, 3, new int[] {0, 0, 40, 0, 50, 9, 50, 0, 10, 0, 0, 9});
        dueCrossed("a corner told twice", 0, 2, new int[] {0, 0, 40, 0, 40, 0, 0, 40});
        dueCrossed("the last corner told twice", 1, 3, new int[] {0, 0, 40, 0, 0, 40, 0, 40});
        dueCrossed("the first corner told twice", 1, 3, new int[] {40, 0, 0, 40, 0, 0, 0, 0});
        dueCrossed("a hole through the outside", 1, 4, big, new int[] {50, 50, 150, 50, 50, 60});
        dueCrossed("a hole that touches", 3, 4, big, new int[] {0, 50, 10, 50, 10, 60});
        dueCrossed("holes that touch", 4, 9, big, Told.box(10, 10, 20, 20), Told.box(5, 5, 10, 10));
        dueCrossed("edges that would overflow", 0, 2,
                new int[] {0, 0, 600, 600, 600, 0, 0, 600});
        due.is("far apart on one line", faultOf(new int[] {0, 0, 10, 0, 15, 5, 20, 0, 30, 0, 15, 30}), 0);
    }

    private void neighbours() {
        dueCrossed("an edge that turns back", 0, 1, new int[] {0, 0, 40, 0, 20, 0, 20, 30});
        dueCrossed("an edge of one that turns back", 0, 1, new int[] {0, 0, 1, 0, 0, 0, 0, 5});
        dueCrossed("an edge that turns back further", 0, 1, new int[] {10, 10, 40, 10, 0, 10, 20, 30});
        dueCrossed("the last edge comes along the first", 0, 3, new int[] {0, 0, 40, 0, 50, 30, 60, 0});
        due.is("a corner on a straight line", faultOf(new int[] {0, 0, 20, 0, 40, 0, 20, 30}), 0);
        due.is("corner 0 on a straight line", faultOf(new int[] {20, 0, 40, 0, 20, 30, 0, 0}), 0);
    }

    /** Edge 1 is the least that shares with any; of 3 and 4 it is 3 that comes first. */
    private void leastPair() {
        int[] ring = {300, 0, 300, 100, 0, 100, 100, 0, 120, 300, 150, 50, 200, 50};
        dueCrossed("the least of pairs", 1, 3, ring);
    }

    private void outside() {
        int[] none = {};
        int[] big = Told.box(10, 10, 100, 100);
        due.is("a hole apart", faultOf(big, Told.box(200, 200, 210, 210)), 3);
        due.is("a hole left of it", faultOf(big, Told.box(0, 50, 5, 55)), 3);
        due.is("the third hole apart", faultOf(big, none, none, Told.box(2, 2, 5, 5)), 3);
        due.is("the outside in its hole", faultOf(big, Told.box(0, 0, 600, 600)), 3);
        due.is("a hole in it", faultOf(big, none, Told.box(11, 11, 99, 99)), 0);
        due.is("at the height of corners", faultOf(new int[] {0, 50, 50, 0, 100, 50, 50, 100},
                Told.box(40, 50, 60, 60)), 0);
        due.is("left, at the height of a corner", faultOf(new int[] {20, 50, 50, 0, 100, 50, 50, 100},
                new int[] {2, 50, 6, 50, 4, 52}), 3);
    }

    private void within() {
        int[] big = Told.box(0, 0, 100, 100);
        due.is("hole 2 in hole 1", faultOf(big, Told.box(10, 10, 50, 50), Told.box(20, 20, 30, 30)), 4);
        due.is("hole 1 in hole 3", faultOf(big, Told.box(20, 20, 30, 30), new int[] {},
                Told.box(10, 10, 50, 50)), 4);
        due.is("three holes apart", faultOf(big, Told.box(10, 10, 20, 20), Told.box(30, 10, 40, 20),
                Told.box(50, 10, 60, 20)), 0);
    }

    /** A shape that is gone leaves no hole behind for the next one. */
    private void holesThatAreGone() {
        StitchDesk desk = new StitchDesk();
        int[] big = Told.box(0, 0, 100, 100);
        int[] hole = Told.box(10, 10, 50, 50);
        due.is("with a hole within", Told.outline(desk, 0, big, hole, Told.box(20, 20, 30, 30)), 4);
        due.is("without it", Told.outline(desk, 0, big, hole), 0);
        due.is("runs", desk.shape(0, 8), 2);
        due.is("with a hole outside", Told.outline(desk, 0, big, new int[] {}, Told.box(200, 20, 230, 30)), 3);
        due.is("then as satin", Told.satin(desk, 0, 4, new int[] {7, 7, 9, 7}, new int[] {7, 9, 9, 9}), 0);
        due.is("its box", desk.shape(1, 6), 9);
    }

    private void faultOrder() {
        int[] bow = {0, 0, 40, 40, 40, 0, 0, 40};
        int[] away = Told.box(200, 200, 300, 300);
        due.is("flat before crossed", faultOf(bow, new int[] {1, 1}), 1);
        due.is("crossed before outside", faultOf(bow, away), 2);
        due.is("outside before within", faultOf(Told.box(0, 0, 50, 50), away, Told.box(210, 210, 220, 220)), 3);
    }

    private void faultOfLatest() {
        StitchDesk desk = new StitchDesk();
        Told.outline(desk, 0, new int[] {0, 0, 40, 40, 40, 0, 0, 40});
        due.isThrown("end with none open", STATE, desk::end);
        due.is("an end that throws is none", desk.fault(2), 2);
        desk.begin(0, 0, 4, 0);
        due.is("fault stays with begin", desk.fault(0), 2);
        desk.end();
        due.is("flat: fault(0)", desk.fault(0), 1);
        due.is("flat: fault(1)", desk.fault(1), -1);
        due.is("flat: fault(2)", desk.fault(2), -1);
        Told.outline(desk, 0, Told.box(0, 0, 9, 9));
        due.is("none: fault(0)", desk.fault(0), 0);
        due.is("none: fault(1)", desk.fault(1), -1);
    }

    private void shapeNumbers() {
        StitchDesk desk = new StitchDesk();
        desk.begin(6, 2, 13, 3);
        Told.rings(desk, new int[] {30, 20, 90, 25, 60, 110}, new int[] {50, 40, 60, 40, 55, 50});
        desk.end();
        int[] want = {6, 2, 13, 3, 30, 20, 90, 110, 2, 8};
        for (int what = 0; what < want.length; what++) {
            due.is("shape(0, " + what + ")", desk.shape(0, what), want[what]);
        }
        due.isThrown("shape(0, 10)", ARGUMENT, () -> desk.shape(0, 10));
        due.isThrown("shape(0, -1)", ARGUMENT, () -> desk.shape(0, -1));
        due.isThrown("shape(1, 0)", NoSuchElementException.class, () -> desk.shape(1, 0));
        due.isThrown("shape(-1, 0)", NoSuchElementException.class, () -> desk.shape(-1, 0));
        due.isThrown("shape(1, 10)", NoSuchElementException.class, () -> desk.shape(1, 10));
        desk.begin(0, 0, 4, 0);
        due.isThrown("an open shape", NoSuchElementException.class, () -> desk.shape(1, 0));
    }

    private void dueHatch(String what, int runs, int spacing, int direction, int[]... rings) {
        StitchDesk desk = new StitchDesk();
        due.is(what, Told.hatch(desk, 0, spacing, direction, rings), 0);
        due.is(what + ": runs", desk.shape(0, 8), runs);
        due.is(what + ": places", desk.shape(0, 9), 2 * runs);
    }

    private void hatchCounts() {
        int[] box = Told.box(0, 0, 40, 20);
        dueHatch("rows of a box", 3, 10, 0, box);
        dueHatch("columns of a box", 5, 10, 1, box);
        // x + y = 0 and 60 touch the box in one place only.
        dueHatch("x + y of a box", 5, 10, 2, box);
        // y - x = -40 and 20 likewise.
        dueHatch("y - x of a box", 5, 10, 3, box);
        dueHatch("between two rows", 0, 20, 0, Told.box(1, 1, 19, 19));
        dueHatch("a row of two places", 1, 20, 0, new int[] {5, 20, 6, 20, 5, 30});
        dueHatch("a row through one place", 0, 20, 0, new int[] {5, 20, 9, 30, 1, 30});
        dueHatch("a row past a hole", 2 + 1 + 1, 10, 0, Told.box(0, 10, 40, 30), Told.box(10, 15, 20, 25));
        dueHatch("a row along a hole's edge", 3, 10, 0, Told.box(0, 10, 40, 30), Told.box(10, 20, 20, 25));
        dueHatch("a hole between two places of a row", 3, 10, 0, Told.box(0, 10, 40, 30),
                new int[] {10, 15, 11, 15, 11, 25, 10, 25});
    }

    private void satinCounts() {
        StitchDesk desk = new StitchDesk();
        Told.satin(desk, 0, 10, new int[] {0, 0, 30, 0}, new int[] {0, 9, 31, 9});
        due.is("31 by 10: runs", desk.shape(0, 8), 1);
        due.is("31 by 10: places", desk.shape(0, 9), 10);
        Told.satin(desk, 0, 10, new int[] {0, 0, 30, 0}, new int[] {0, 9, 30, 9});
        due.is("30 by 10: places", desk.shape(1, 9), 8);
        Told.satin(desk, 0, 10, new int[] {5, 5, 5, 5}, new int[] {9, 9, 9, 9});
        due.is("0 by 10: places", desk.shape(2, 9), 4);
        Told.satin(desk, 0, 10, new int[] {0, 0, 5, 0, 5, 41}, new int[] {20, 0, 20, 5, 30, 9});
        due.is("5 and 41 by 10: places", desk.shape(3, 9), 2 + 10 + 2);
        Told.satin(desk, 0, 10, new int[] {0, 0, 0, 0}, new int[] {0, 0, 0, 0});
        for (int what = 4; what < 8; what++) {
            due.is("at (0, 0): shape(4, " + what + ")", desk.shape(4, what), 0);
        }
    }

    private void count() {
        StitchDesk desk = new StitchDesk();
        Told.outline(desk, 0, Told.box(0, 0, 9, 9));
        desk.stitch();
        desk.load(0, 1);
        desk.load(1, 1);
        desk.begin(0, 0, 4, 0);
        due.is("count(0)", desk.count(0), 1);
        due.is("count(1)", desk.count(1), 4);
        due.is("count(2)", desk.count(2), 2);
        due.is("count(3)", desk.count(3), 1);
        due.is("count(4)", desk.count(4), -1);
        due.is("count(-1)", desk.count(-1), -1);
    }
}
