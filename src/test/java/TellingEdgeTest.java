import java.util.NoSuchElementException;

/** The edges that the promises 1 to 9 name: a test for each sentence. */
public final class TellingEdgeTest {
    private static final Class<IllegalStateException> STATE = IllegalStateException.class;
    private static final Class<IllegalArgumentException> ARGUMENT = IllegalArgumentException.class;
    private static final Class<UnsupportedOperationException> UNSUPPORTED = UnsupportedOperationException.class;
    private static final Class<NoSuchElementException> NO_SUCH = NoSuchElementException.class;
    private static final int LEAST = Integer.MIN_VALUE;
    private static final int GREATEST = Integer.MAX_VALUE;
    private static final int[] BOW = {0, 0, 40, 40, 40, 0, 0, 40};

    private final Due due = new Due();

    public static void main(String[] args) {
        TellingEdgeTest test = new TellingEdgeTest();
        test.none();
        test.newDesk();
        test.open();
        test.beginWithOneOpen();
        test.beginWithTen();
        test.goneShapesAreNotCounted();
        test.beginOfWrongNumbers();
        test.cornersOfRing();
        test.cornerWithNoneOpen();
        test.cornerOfSatin();
        test.cornerOfNoRing();
        test.cornerOfFullRing();
        test.cornersOfRail();
        test.railWithNoneOpen();
        test.railOfRings();
        test.railOfNoRail();
        test.railThatIsFull();
        test.endCloses();
        test.endAsNext();
        test.endAsLastInOrder();
        test.endWithFault();
        test.nothingStaysOfOneThatIsGone();
        test.endWithNoneOpen();
        test.faultOfLatest();
        test.lesserEdge();
        test.otherEdge();
        test.faultOtherwise();
        test.faultOfNoEnd();
        test.numbersOfShape();
        test.runsOfShape();
        test.noSuchShape();
        test.noSuchNumber();
        test.counts();
        test.countOfOther();
        test.stitchNothing();
        test.stitchAllShapes();
        test.stitchMost();
        test.stitchTooMany();
        test.stitchFewerAgain();
        test.lastCall();
        test.due.finish();
    }

    private void none() {
        due.of("Terms", "`NONE = -1`: There is none.");
        due.is("NONE", StitchDesk.NONE, -1);
    }

    private void newDesk() {
        due.of("Promise 1", "No shapes, none open, no path, nothing loaded.");
        StitchDesk desk = new StitchDesk();
        due.is("count(0)", desk.count(0), 0);
        due.is("count(1)", desk.count(1), 0);
        due.is("count(2)", desk.count(2), 0);
        due.is("count(3)", desk.count(3), 0);
        due.is("order(0)", desk.order(0), -1);
        due.is("under(0, 0)", desk.under(0, 0), -1);
        due.is("needle(0, 0)", desk.needle(0, 0), 0);
        due.is("needle(0, 1)", desk.needle(0, 1), 0);
        due.is("thread(0)", desk.thread(0), 0);
        due.is("stop(0)", desk.stop(0), -1);
        due.is("hoop(0, 0)", desk.hoop(0, 0), true);
        due.isThrown("shape(0, 0)", NO_SUCH, () -> desk.shape(0, 0));
        due.isThrown("record(0, 0)", IndexOutOfBoundsException.class, () -> desk.record(0, 0));
        due.isThrown("byteAt(0)", IndexOutOfBoundsException.class, () -> desk.byteAt(0));
        due.isThrown("needle(1, 0)", IndexOutOfBoundsException.class, () -> desk.needle(1, 0));
        due.is("load(0, 0)", desk.load(0, 0), 1);
        StitchDesk other = new StitchDesk();
        due.is("another desk has nothing of it", other.count(2), 0);
        due.is("its decode()", other.decode(), 0);
        due.is("its stitch()", other.stitch(), 0);
        due.is("its reorder()", other.reorder(), 0);
    }

    private void open() {
        due.of("Promise 2", "A shape is open from now on.");
        for (int fill = 0; fill < 3; fill++) {
            StitchDesk desk = new StitchDesk();
            desk.begin(0, fill, 4, 0);
            due.is("count(3)", desk.count(3), 1);
            due.is("it is no shape yet", desk.count(0), 0);
            due.is("in no order yet", desk.order(0), -1);
            due.isThrown("nor asked for", NO_SUCH, () -> desk.shape(0, 0));
            due.is("it has no corners yet", fill == 1 ? desk.rail(1, 5, 5) : desk.corner(2, 5, 5), 1);
        }
    }

    private void beginWithOneOpen() {
        due.of("Promise 2", "IllegalStateException if one is");
        StitchDesk desk = new StitchDesk();
        desk.begin(1, 2, 5, 1);
        due.isThrown("begin(0, 0, 4, 0)", STATE, () -> desk.begin(0, 0, 4, 0));
        due.isThrown("begin of wrong numbers", STATE, () -> desk.begin(-1, -1, -1, -1));
        Told.rings(desk, Told.box(0, 0, 9, 9));
        due.isThrown("begin with corners told", STATE, () -> desk.begin(0, 1, 4, 0));
        due.is("the first one goes on", desk.end(), 0);
        int[] want = {1, 2, 5, 1};
        for (int what = 0; what < 4; what++) {
            due.is("shape(0, " + what + ")", desk.shape(0, what), want[what]);
        }
        desk.begin(0, 0, 4, 0);
        due.is("behind its end one can begin", desk.count(3), 1);
    }

    private static StitchDesk deskOf(int shapes) {
        StitchDesk desk = new StitchDesk();
        for (int n = 0; n < shapes; n++) {
            Told.outline(desk, n % 8, Told.box(20 * n, 0, 20 * n + 9, 9));
        }
        return desk;
    }

    private void beginWithTen() {
        due.of("Promise 2", "UnsupportedOperationException if there are ten shapes");
        StitchDesk desk = deskOf(9);
        due.is("nine shapes", desk.count(0), 9);
        desk.begin(0, 2, 4, 0);
        due.isThrown("the tenth is open", STATE, () -> desk.begin(0, 0, 4, 0));
        Told.rings(desk, Told.box(300, 300, 309, 309));
        due.is("the tenth", desk.end(), 0);
        due.isThrown("an eleventh", UNSUPPORTED, () -> desk.begin(0, 0, 4, 0));
        due.isThrown("an eleventh of wrong numbers", UNSUPPORTED, () -> desk.begin(8, 3, 21, 4));
        due.is("ten stay", desk.count(0), 10);
        due.is("none is open", desk.count(3), 0);
        due.isThrown("so no corner goes in", STATE, () -> desk.corner(0, 5, 5));
    }

    private void goneShapesAreNotCounted() {
        due.of("Promise 2", "UnsupportedOperationException if there are ten shapes");
        StitchDesk desk = deskOf(9);
        for (int k = 0; k < 12; k++) {
            due.is("a shape with a fault", Told.outline(desk, 0, BOW), 2);
        }
        due.is("nine shapes all the same", desk.count(0), 9);
        due.is("and a tenth", Told.outline(desk, 0, Told.box(300, 300, 309, 309)), 0);
    }

    private void beginOfWrongNumbers() {
        due.of("Promise 2", "IllegalArgumentException if one of these is not as it must be.");
        int[][] wrong = {{-1, 0, 4, 0}, {8, 0, 4, 0}, {0, -1, 4, 0}, {0, 3, 4, 0}, {0, 0, 3, 0}, {0, 0, 21, 0},
            {0, 0, 4, -1}, {0, 0, 4, 4}, {LEAST, 0, 4, 0}, {GREATEST, 0, 4, 0}, {0, LEAST, 4, 0}, {0, GREATEST, 4, 0},
            {0, 0, LEAST, 0}, {0, 0, GREATEST, 0}, {0, 0, 4, LEAST}, {0, 0, 4, GREATEST}, {0, 0, 0, 0}, {8, 3, 3, 4}};
        StitchDesk desk = new StitchDesk();
        for (int[] w : wrong) {
            due.isThrown("begin(" + w[0] + ", " + w[1] + ", " + w[2] + ", " + w[3] + ")", ARGUMENT,
                    () -> desk.begin(w[0], w[1], w[2], w[3]));
            due.is("none is open", desk.count(3), 0);
        }
    }

    private void cornersOfRing() {
        due.of("Promise 3", "One more corner of a ring of the shape that is open: how many it has.");
        StitchDesk desk = new StitchDesk();
        desk.begin(0, 0, 4, 0);
        for (int k = 1; k <= 24; k++) {
            for (int ring = 3; ring >= 0; ring--) {
                due.is("corner " + k + " of ring " + ring, desk.corner(ring, k, ring), k);
            }
        }
        desk.end();
        desk.begin(0, 2, 4, 0);
        due.is("the next shape begins anew", desk.corner(0, 5, 5), 1);
        due.is("the same place again", desk.corner(0, 5, 5), 2);
    }

    private void cornerWithNoneOpen() {
        due.of("Promise 3", "IllegalStateException if none is open");
        StitchDesk desk = new StitchDesk();
        due.isThrown("new: corner(0, 0, 0)", STATE, () -> desk.corner(0, 0, 0));
        due.isThrown("new: corner of no ring", STATE, () -> desk.corner(4, 601, 0));
        Told.outline(desk, 0, Told.box(0, 0, 9, 9));
        due.isThrown("behind an end", STATE, () -> desk.corner(0, 0, 0));
        Told.outline(desk, 0, BOW);
        due.isThrown("behind an end with a fault", STATE, () -> desk.corner(0, 0, 0));
        due.is("one shape", desk.count(0), 1);
        due.is("of five places", desk.shape(0, 9), 5);
    }

    private void cornerOfSatin() {
        due.of("Promise 3", "or it is of fill 1");
        StitchDesk desk = new StitchDesk();
        desk.begin(0, 1, 4, 0);
        due.isThrown("corner(0, 0, 0)", STATE, () -> desk.corner(0, 0, 0));
        due.isThrown("corner(1, 600, 600)", STATE, () -> desk.corner(1, 600, 600));
        due.isThrown("of no ring", STATE, () -> desk.corner(4, 0, 0));
        due.isThrown("of no place", STATE, () -> desk.corner(0, -1, 0));
        Told.rails(desk, new int[] {100, 100, 109, 100}, new int[] {100, 109, 109, 109});
        due.is("the rails are all it has", desk.end(), 0);
        due.is("its least x", desk.shape(0, 4), 100);
    }

    private void cornerOfNoRing() {
        due.of("Promise 3", "IllegalArgumentException if there is no such ring or place");
        int[][] wrong = {{-1, 5, 5}, {4, 5, 5}, {LEAST, 5, 5}, {GREATEST, 5, 5}, {0, -1, 5}, {1, 601, 5}, {2, 5, -1},
            {3, 5, 601}, {0, LEAST, 5}, {0, GREATEST, 5}, {0, 5, LEAST}, {0, 5, GREATEST}, {4, 601, 601}};
        for (int fill = 0; fill <= 2; fill += 2) {
            StitchDesk desk = new StitchDesk();
            desk.begin(0, fill, 4, 0);
            for (int[] w : wrong) {
                due.isThrown("corner(" + w[0] + ", " + w[1] + ", " + w[2] + ")", ARGUMENT,
                        () -> desk.corner(w[0], w[1], w[2]));
            }
            for (int ring = 0; ring < 4; ring++) {
                due.is("ring " + ring + " has none of them", desk.corner(ring, 5, 5), 1);
            }
        }
    }

    private void cornerOfFullRing() {
        due.of("Promise 3", "UnsupportedOperationException if it has 24.");
        for (int ring = 0; ring < 4; ring++) {
            int full = ring;
            StitchDesk desk = new StitchDesk();
            desk.begin(0, 0, 4, 0);
            for (int k = 1; k <= 24; k++) {
                due.is("corner " + k + " of ring " + ring, desk.corner(ring, 10 * k, k * k), k);
            }
            due.isThrown("corner 25 of ring " + ring, UNSUPPORTED, () -> desk.corner(full, 5, 5));
            due.isThrown("and again", UNSUPPORTED, () -> desk.corner(full, 5, 5));
            due.isThrown("of no place", ARGUMENT, () -> desk.corner(full, 5, 601));
            due.is("another ring has room", desk.corner((ring + 1) % 4, 5, 5), 1);
        }
    }

    private void cornersOfRail() {
        due.of("Promise 4", "One more corner of a rail of the shape that is open: how many it has.");
        StitchDesk desk = new StitchDesk();
        desk.begin(0, 1, 4, 0);
        for (int k = 1; k <= 16; k++) {
            due.is("corner " + k + " of rail 1", desk.rail(1, k, 9), k);
            due.is("corner " + k + " of rail 0", desk.rail(0, k, 0), k);
        }
        due.is("end()", desk.end(), 0);
        desk.begin(0, 1, 4, 0);
        due.is("the next shape begins anew", desk.rail(0, 5, 5), 1);
        due.is("the same place again", desk.rail(0, 5, 5), 2);
    }

    private void railWithNoneOpen() {
        due.of("Promise 4", "IllegalStateException if none is open");
        StitchDesk desk = new StitchDesk();
        due.isThrown("new: rail(0, 0, 0)", STATE, () -> desk.rail(0, 0, 0));
        due.isThrown("new: rail of no side", STATE, () -> desk.rail(2, 601, 0));
        Told.satin(desk, 0, 4, new int[] {0, 0, 9, 0}, new int[] {0, 9, 9, 9});
        due.isThrown("behind an end", STATE, () -> desk.rail(0, 0, 0));
        Told.satin(desk, 0, 4, new int[] {0, 0}, new int[] {0, 9, 9, 9});
        due.isThrown("behind an end with a fault", STATE, () -> desk.rail(0, 0, 0));
        due.is("one shape", desk.count(0), 1);
        due.is("of eight places", desk.shape(0, 9), 2 * 3 + 2);
    }

    private void railOfRings() {
        due.of("Promise 4", "or it is not of fill 1");
        for (int fill = 0; fill <= 2; fill += 2) {
            StitchDesk desk = new StitchDesk();
            desk.begin(0, fill, 4, 0);
            due.isThrown("rail(0, 0, 0)", STATE, () -> desk.rail(0, 0, 0));
            due.isThrown("rail(1, 600, 600)", STATE, () -> desk.rail(1, 600, 600));
            due.isThrown("of no rail", STATE, () -> desk.rail(2, 0, 0));
            due.isThrown("of no place", STATE, () -> desk.rail(0, -1, 0));
            Told.rings(desk, Told.box(100, 100, 109, 109));
            due.is("the ring is all it has", desk.end(), 0);
            due.is("its least x", desk.shape(0, 4), 100);
        }
    }

    private void railOfNoRail() {
        due.of("Promise 4", "IllegalArgumentException if there is no such rail or place");
        int[][] wrong = {{-1, 5, 5}, {2, 5, 5}, {3, 5, 5}, {LEAST, 5, 5}, {GREATEST, 5, 5}, {0, -1, 5}, {1, 601, 5},
            {0, 5, -1}, {1, 5, 601}, {0, LEAST, 5}, {0, GREATEST, 5}, {0, 5, LEAST}, {0, 5, GREATEST}, {2, 601, 601}};
        StitchDesk desk = new StitchDesk();
        desk.begin(0, 1, 4, 0);
        for (int[] w : wrong) {
            due.isThrown("rail(" + w[0] + ", " + w[1] + ", " + w[2] + ")", ARGUMENT,
                    () -> desk.rail(w[0], w[1], w[2]));
        }
        due.is("rail 0 has none of them", desk.rail(0, 5, 5), 1);
        due.is("rail 1 has none of them", desk.rail(1, 5, 5), 1);
    }

    private void railThatIsFull() {
        due.of("Promise 4", "UnsupportedOperationException if it has 16.");
        for (int side = 0; side < 2; side++) {
            int full = side;
            StitchDesk desk = new StitchDesk();
            desk.begin(0, 1, 4, 0);
            for (int k = 1; k <= 16; k++) {
                due.is("corner " + k + " of rail " + side, desk.rail(side, 10 * k, k * k), k);
            }
            due.isThrown("corner 17 of rail " + side, UNSUPPORTED, () -> desk.rail(full, 5, 5));
            due.isThrown("and again", UNSUPPORTED, () -> desk.rail(full, 5, 5));
            due.isThrown("of no place", ARGUMENT, () -> desk.rail(full, 601, 5));
            due.is("the other rail has room", desk.rail(1 - side, 5, 5), 1);
        }
    }

    private void endCloses() {
        due.of("Promise 5", "The shape that is open is closed");
        StitchDesk desk = new StitchDesk();
        desk.begin(0, 2, 4, 0);
        Told.rings(desk, Told.box(0, 0, 9, 9));
        due.is("open", desk.count(3), 1);
        desk.end();
        due.is("closed", desk.count(3), 0);
        due.isThrown("so no corner goes in", STATE, () -> desk.corner(0, 5, 5));
        desk.begin(0, 1, 4, 0);
        due.is("open again", desk.count(3), 1);
        desk.end();
        due.is("closed with a fault", desk.count(3), 0);
        due.isThrown("so no rail goes in", STATE, () -> desk.rail(0, 5, 5));
    }

    private void endAsNext() {
        due.of("Promise 5", "0, it is the next shape (they are numbered from 0 on");
        StitchDesk desk = new StitchDesk();
        for (int n = 0; n < 10; n++) {
            due.is("end()", Told.outline(desk, n % 8, Told.box(n, n, n + 9, n + 9)), 0);
            due.is("it is closed", desk.count(3), 0);
            due.is("shapes", desk.count(0), n + 1);
            due.is("the colour of shape " + n, desk.shape(n, 0), n % 8);
            due.is("the colour of shape 0", desk.shape(0, 0), 0);
            if (n < 9) {
                due.is("one with a fault has no number", Told.outline(desk, 7, BOW), 2);
            }
        }
        due.is("all shapes", desk.count(0), 10);
    }

    private void endAsLastInOrder() {
        due.of("Promise 5", "and it comes last in the order");
        StitchDesk desk = new StitchDesk();
        int[] colours = {1, 2, 1};
        for (int n = 0; n < 3; n++) {
            Told.outline(desk, colours[n], Told.box(20 * n, 0, 20 * n + 9, 9));
            due.is("order(" + n + ")", desk.order(n), n);
        }
        desk.reorder();
        due.is("behind reorder()", desk.order(1), 2);
        Told.outline(desk, 1, Told.box(100, 0, 109, 9));
        int[] want = {0, 2, 1, 3, -1};
        for (int k = 0; k < 5; k++) {
            due.is("order(" + k + ")", desk.order(k), want[k]);
        }
        Told.outline(desk, 1, BOW);
        due.is("one with a fault is in no order", desk.order(4), -1);
    }

    private void endWithFault() {
        due.of("Promise 5", "or its first fault, and it is gone");
        StitchDesk desk = new StitchDesk();
        int[] box = Told.box(0, 0, 100, 100);
        due.is("flat", Told.outline(desk, 1, new int[] {5, 5}), 1);
        due.is("crossed", Told.outline(desk, 1, BOW), 2);
        due.is("outside", Told.outline(desk, 1, box, Told.box(200, 200, 210, 210)), 3);
        due.is("within", Told.outline(desk, 1, box, Told.box(10, 10, 40, 40), Told.box(20, 20, 30, 30)), 4);
        due.is("flat rails", Told.satin(desk, 1, 4, new int[] {5, 5, 9, 9}), 1);
        due.is("none is open", desk.count(3), 0);
        due.is("no shapes", desk.count(0), 0);
        due.is("under(20, 20)", desk.under(20, 20), -1);
        due.is("stitch()", desk.stitch(), 0);
        due.is("the outside alone", Told.outline(desk, 2, box), 0);
        due.is("the holes are gone too", desk.shape(0, 8), 1);
        due.is("so it is in there", desk.under(25, 25), 0);
    }

    private void nothingStaysOfOneThatIsGone() {
        due.of("Promise 5", "or its first fault, and it is gone");
        StitchDesk desk = new StitchDesk();
        due.is("rails of 3 and 2", Told.satin(desk, 0, 4, new int[] {1, 1, 9, 1, 9, 5}, new int[] {1, 9, 9, 9}), 1);
        desk.begin(0, 1, 4, 0);
        due.is("rail 0 begins anew", desk.rail(0, 50, 50), 1);
        due.is("rail 1 begins anew", desk.rail(1, 50, 60), 1);
        desk.rail(0, 54, 50);
        desk.rail(1, 54, 60);
        due.is("it is a shape", desk.end(), 0);
        due.is("of its own places", desk.shape(0, 9), 4);
        due.is("in its own box", desk.shape(0, 4), 50);
        due.is("a bow with holes", Told.outline(desk, 0, BOW, Told.box(1, 1, 3, 3), BOW, BOW), 2);
        desk.begin(0, 2, 4, 0);
        for (int ring = 3; ring >= 0; ring--) {
            due.is("ring " + ring + " begins anew", desk.corner(ring, 50, 50), 1);
        }
        due.is("they are flat", desk.end(), 1);
        due.is("as satin", Told.satin(desk, 0, 4, new int[] {70, 70, 72, 70}, new int[] {70, 75, 72, 75}), 0);
        due.is("its least x", desk.shape(1, 4), 70);
        due.is("under(50, 50)", desk.under(50, 50), 0);
        due.is("under(20, 20)", desk.under(20, 20), -1);
    }

    private void endWithNoneOpen() {
        due.of("Promise 5", "IllegalStateException if none is open.");
        StitchDesk desk = new StitchDesk();
        due.isThrown("new: end()", STATE, desk::end);
        Told.outline(desk, 0, Told.box(0, 0, 9, 9));
        due.isThrown("twice", STATE, desk::end);
        Told.outline(desk, 0, BOW);
        due.isThrown("twice, with a fault", STATE, desk::end);
        due.is("one shape", desk.count(0), 1);
        StitchDesk ten = deskOf(10);
        due.isThrown("with ten shapes", STATE, ten::end);
    }

    private void faultOfLatest() {
        due.of("Promise 6", "Of the latest end(): its fault (0)");
        StitchDesk desk = new StitchDesk();
        Told.outline(desk, 0, BOW);
        due.is("crossed", desk.fault(0), 2);
        due.isThrown("end()", STATE, desk::end);
        due.is("one that throws is no end", desk.fault(0), 2);
        desk.begin(0, 2, 4, 0);
        due.is("one is open", desk.fault(0), 2);
        due.is("one is open: fault(2)", desk.fault(2), 2);
        Told.rings(desk, Told.box(0, 0, 9, 9));
        due.is("and has corners", desk.fault(1), 0);
        desk.end();
        due.is("none", desk.fault(0), 0);
        Told.outline(desk, 0, new int[] {5, 5});
        due.is("flat", desk.fault(0), 1);
        desk.stitch();
        desk.reorder();
        desk.decode();
        due.is("other calls are no ends", desk.fault(0), 1);
    }

    private void dueEdges(int lesser, int other, int[]... rings) {
        StitchDesk desk = new StitchDesk();
        due.is("end()", Told.outline(desk, 0, rings), 2);
        due.is("fault(1)", desk.fault(1), lesser);
        due.is("fault(2)", desk.fault(2), other);
    }

    private void lesserEdge() {
        due.of("Promise 6", "the one with the lesser number (1), of all that do with any, the least");
        int[] box = Told.box(0, 0, 100, 100);
        int[] bow = {10, 10, 30, 30, 30, 10, 10, 30};
        // 4 and 6 come first together, but 1 shares with 11 and 12.
        dueEdges(1, 11, box, bow, new int[] {50, 50, 60, 50, 50, 60}, new int[] {90, 50, 110, 50, 90, 60});
        dueEdges(4, 6, box, bow, new int[] {50, 50, 60, 50, 50, 60});
        dueEdges(0, 4, box, new int[] {50, 0, 60, 20, 40, 20}, new int[] {60, 60, 90, 90, 90, 60, 60, 90});
        dueEdges(1, 3, new int[] {300, 0, 300, 100, 0, 100, 100, 0, 120, 300, 150, 50, 200, 50});
    }

    private void otherEdge() {
        due.of("Promise 6", "the other one (2), of all that share with that one, the least");
        int[] box = Told.box(0, 0, 100, 100);
        int[] through = {50, 20, 90, 120, 10, 120};
        // Edge 2, from (100, 100) to (0, 100), shares with 4, 6, and in the next hole with 7 and 9.
        dueEdges(2, 4, box, through, new int[] {20, 40, 30, 110, 15, 110});
        dueEdges(2, 7, box, new int[] {5, 5, 10, 5, 5, 10}, through);
        dueEdges(2, 5, box, new int[] {90, 120, 10, 120, 50, 20});
        dueEdges(0, 2, new int[] {0, 50, 100, 50, 80, 20, 70, 80, 60, 20, 50, 80, 0, 80});
    }

    private void faultOtherwise() {
        due.of("Promise 6", "Otherwise NONE for 1 and 2, also for other w");
        int[] box = Told.box(0, 0, 100, 100);
        int[][][] shapes = {{box}, {{5, 5}}, {box, Told.box(200, 200, 210, 210)},
            {box, Told.box(10, 10, 40, 40), Told.box(20, 20, 30, 30)}, {BOW}};
        int[] faults = {0, 1, 3, 4, 2};
        for (int i = 0; i < shapes.length; i++) {
            StitchDesk desk = new StitchDesk();
            Told.outline(desk, 0, BOW);
            Told.outline(desk, 0, shapes[i]);
            due.is("fault(0)", desk.fault(0), faults[i]);
            due.is("fault(1) with " + faults[i], desk.fault(1), faults[i] == 2 ? 0 : -1);
            due.is("fault(2) with " + faults[i], desk.fault(2), faults[i] == 2 ? 2 : -1);
            for (int w : new int[] {-1, 3, 4, LEAST, GREATEST}) {
                due.is("fault(" + w + ") with " + faults[i], desk.fault(w), -1);
            }
        }
        StitchDesk satin = new StitchDesk();
        Told.outline(satin, 0, BOW);
        Told.satin(satin, 0, 4, new int[] {5, 5});
        due.is("fault(1) of rails", satin.fault(1), -1);
        due.is("fault(2) of rails", satin.fault(2), -1);
    }

    private void faultOfNoEnd() {
        due.of("Promise 6", "0 for 0 if there was none");
        StitchDesk desk = new StitchDesk();
        due.is("fault(0)", desk.fault(0), 0);
        due.is("fault(1)", desk.fault(1), -1);
        due.is("fault(2)", desk.fault(2), -1);
        due.is("fault(-1)", desk.fault(-1), -1);
        due.is("fault(3)", desk.fault(3), -1);
        due.isThrown("end()", STATE, desk::end);
        due.is("fault(0) behind one that throws", desk.fault(0), 0);
    }

    private void numbersOfShape() {
        due.of("Promise 7", "0 its colour, 1 fill, 2 spacing, 3 direction, 4 .. 7 its box, least x, least y, "
                + "greatest x, greatest y");
        StitchDesk desk = new StitchDesk();
        desk.begin(6, 2, 13, 3);
        Told.rings(desk, new int[] {30, 20, 90, 25, 60, 110}, new int[] {50, 40, 60, 40, 55, 50});
        desk.end();
        desk.begin(5, 1, 20, 1);
        Told.rails(desk, new int[] {200, 300, 210, 305}, new int[] {190, 320, 205, 330});
        desk.end();
        int[][] want = {{6, 2, 13, 3, 30, 20, 90, 110}, {5, 1, 20, 1, 190, 300, 210, 330}};
        for (int n = 0; n < 2; n++) {
            for (int what = 0; what < 8; what++) {
                due.is("shape(" + n + ", " + what + ")", desk.shape(n, what), want[n][what]);
            }
        }
        Told.outline(desk, 6, Told.box(400, 400, 410, 410));
        desk.reorder();
        due.is("order(1)", desk.order(1), 2);
        due.is("they keep their numbers", desk.shape(1, 0), 5);
    }

    private void runsOfShape() {
        due.of("Promise 7", "8 how many runs it has, 9 how many places these have");
        StitchDesk desk = new StitchDesk();
        Told.hatch(desk, 0, 20, 0, Told.box(1, 1, 9, 9));
        Told.hatch(desk, 0, 20, 0, Told.box(1, 15, 9, 45));
        Told.outline(desk, 0, Told.box(0, 0, 60, 60), Told.box(10, 10, 20, 20), Told.box(30, 10, 40, 20));
        Told.satin(desk, 0, 20, new int[] {5, 5, 5, 5}, new int[] {5, 5, 5, 5});
        int[] runs = {0, 2, 3, 1};
        int[] places = {0, 4, 15, 4};
        for (int n = 0; n < 4; n++) {
            due.is("shape(" + n + ", 8)", desk.shape(n, 8), runs[n]);
            due.is("shape(" + n + ", 9)", desk.shape(n, 9), places[n]);
        }
        desk.stitch();
        due.is("behind stitch(): runs", desk.shape(1, 8), 2);
        due.is("behind stitch(): places", desk.shape(1, 9), 4);
    }

    private void noSuchShape() {
        due.of("Promise 7", "NoSuchElementException if there is no such shape");
        StitchDesk desk = new StitchDesk();
        Told.outline(desk, 0, BOW);
        due.isThrown("one that is gone", NO_SUCH, () -> desk.shape(0, 0));
        Told.outline(desk, 0, Told.box(0, 0, 9, 9));
        due.is("shape(0, 1)", desk.shape(0, 1), 2);
        desk.begin(0, 2, 4, 0);
        for (int n : new int[] {-1, 1, 2, 10, LEAST, GREATEST}) {
            due.isThrown("shape(" + n + ", 0)", NO_SUCH, () -> desk.shape(n, 0));
            due.isThrown("shape(" + n + ", 10)", NO_SUCH, () -> desk.shape(n, 10));
        }
        StitchDesk ten = deskOf(10);
        due.is("shape(9, 0)", ten.shape(9, 0), 1);
        due.isThrown("shape(10, 0)", NO_SUCH, () -> ten.shape(10, 0));
    }

    private void noSuchNumber() {
        due.of("Promise 7", "IllegalArgumentException for another what.");
        StitchDesk desk = deskOf(1);
        for (int what : new int[] {-1, 10, 11, LEAST, GREATEST}) {
            due.isThrown("shape(0, " + what + ")", ARGUMENT, () -> desk.shape(0, what));
        }
    }

    private void counts() {
        due.of("Promise 8", "How many shapes (0), records of the path (1), bytes loaded (2), "
                + "whether a shape is open (3: 1 or 0).");
        StitchDesk desk = deskOf(2);
        due.is("count(0)", desk.count(0), 2);
        due.is("count(1), no path yet", desk.count(1), 0);
        desk.stitch();
        due.is("count(1)", desk.count(1), 4 + 1 + 1 + 4);
        desk.load(0, 0);
        desk.load(1, 0);
        due.is("count(2)", desk.count(2), 2);
        desk.load(2, 0);
        due.is("count(3)", desk.count(3), 0);
        desk.begin(0, 1, 4, 0);
        due.is("count(3), one open", desk.count(3), 1);
        due.is("count(0), one open", desk.count(0), 2);
        desk.decode();
        due.is("count(1), decoded", desk.count(1), 1);
        due.is("count(2), decoded", desk.count(2), 0);
        desk.end();
        due.is("count(3), one gone", desk.count(3), 0);
    }

    private void countOfOther() {
        due.of("Promise 8", "NONE for another what.");
        StitchDesk desk = deskOf(2);
        for (int what : new int[] {-1, 4, 5, LEAST, GREATEST}) {
            due.is("count(" + what + ")", desk.count(what), -1);
        }
    }

    private void stitchNothing() {
        due.of("Promise 9", "The path is made of all shapes: how many records");
        StitchDesk desk = new StitchDesk();
        due.is("of no shapes", desk.stitch(), 0);
        Told.loadGroup(desk, 1);
        due.is("a path that was read", desk.decode(), 1);
        due.is("is no more", desk.stitch(), 0);
        due.is("count(1)", desk.count(1), 0);
        Told.loadGroup(desk, 1);
        due.is("what is loaded", desk.stitch(), 0);
        due.is("stays loaded", desk.count(2), 3);
    }

    private void stitchAllShapes() {
        due.of("Promise 9", "The path is made of all shapes: how many records");
        StitchDesk desk = deskOf(10);
        due.is("of ten shapes", desk.stitch(), 10 * 4 + 9 + 9);
        StitchDesk open = deskOf(1);
        open.begin(1, 2, 4, 0);
        Told.rings(open, Told.box(100, 100, 109, 109));
        due.is("one that is open is none of them", open.stitch(), 4);
        due.is("and stays open", open.end(), 0);
        due.is("the path is as it was", open.count(1), 4);
        due.is("then it is", open.stitch(), 4 + 1 + 2 + 4);
        Told.outline(open, 0, BOW);
        due.is("one that is gone is none", open.stitch(), 4 + 1 + 2 + 4);
    }

    /** 3901 records: 13 edges of 600, 150 pieces with two places each, and the last stitch. */
    private static StitchDesk longDesk() {
        StitchDesk desk = new StitchDesk();
        desk.begin(0, 1, 4, 0);
        for (int i = 0; i < 14; i++) {
            desk.rail(0, i % 2 * 600, 0);
            desk.rail(1, i % 2 * 600, 10);
        }
        desk.end();
        return desk;
    }

    private void stitchMost() {
        due.of("Promise 9", "NONE if there would be more than 4000");
        StitchDesk desk = longDesk();
        due.is("3901", desk.stitch(), 3901);
        Told.satin(desk, 0, 4, new int[] {600, 10, 404, 10}, new int[] {600, 20, 404, 20});
        due.is("4000", desk.stitch(), 4000);
        due.is("count(1)", desk.count(1), 4000);
        due.is("record(3999, 1)", desk.record(3999, 1), 10);
        due.is("byteAt(11998)", desk.byteAt(11998), 68);
        due.is("needle(4000, 0)", desk.needle(4000, 0), 404);
        Told.satin(desk, 0, 4, new int[] {404, 20, 404, 20}, new int[] {404, 20, 404, 20});
        due.is("a shape of no records more", desk.stitch(), 4000);
        Told.satin(desk, 0, 4, new int[] {404, 20, 404, 20}, new int[] {404, 20, 405, 20});
        due.is("two more", desk.stitch(), -1);
        StitchDesk one = longDesk();
        Told.satin(one, 0, 4, new int[] {600, 11, 404, 11}, new int[] {600, 21, 404, 21});
        due.is("4001", one.stitch(), -1);
        StitchDesk stopped = longDesk();
        Told.satin(stopped, 1, 4, new int[] {600, 10, 404, 10}, new int[] {600, 20, 404, 20});
        due.is("4001 with a stop", stopped.stitch(), -1);
    }

    private void stitchTooMany() {
        due.of("Promise 9", "(there are no records then)");
        StitchDesk desk = longDesk();
        due.is("3901", desk.stitch(), 3901);
        Told.satin(desk, 1, 4, new int[] {600, 11, 0, 11}, new int[] {600, 21, 0, 21});
        due.is("too many", desk.stitch(), -1);
        due.is("count(1)", desk.count(1), 0);
        due.isThrown("record(0, 0)", IndexOutOfBoundsException.class, () -> desk.record(0, 0));
        due.isThrown("byteAt(0)", IndexOutOfBoundsException.class, () -> desk.byteAt(0));
        due.isThrown("needle(1, 0)", IndexOutOfBoundsException.class, () -> desk.needle(1, 0));
        due.is("needle(0, 0)", desk.needle(0, 0), 0);
        due.is("thread(0)", desk.thread(0), 0);
        due.is("stop(0)", desk.stop(0), -1);
        due.is("hoop(0, 0)", desk.hoop(0, 0), true);
        due.is("the shapes stay", desk.count(0), 2);
        due.is("again", desk.stitch(), -1);
        Told.loadGroup(desk, 1);
        due.is("a path can be read", desk.decode(), 1);
        due.is("and is there", desk.record(0, 0), 1);
        due.is("until the next", desk.stitch(), -1);
        due.is("and no more", desk.count(1), 0);
    }

    private void stitchFewerAgain() {
        due.of("Promise 9", "NONE if there would be more than 4000");
        StitchDesk desk = longDesk();
        Told.outline(desk, 1, new int[] {600, 20, 599, 20, 600, 21});
        Told.satin(desk, 0, 4, new int[] {600, 30, 508, 30, 600, 30}, new int[] {600, 40, 508, 40, 600, 40});
        due.is("4001 with two stops", desk.stitch(), -1);
        due.is("one stop is enough", desk.reorder(), 1);
        due.is("4000 with one stop", desk.stitch(), 4000);
        due.is("count(1)", desk.count(1), 4000);
    }

    private void lastCall() {
        due.of("What it is", "An object is used for at most 512 calls after it has been made");
        StitchDesk desk = new StitchDesk();
        for (int i = 0; i < 510; i++) {
            desk.load(i, 0);
        }
        due.is("call 511", desk.decode(), 170);
        due.is("call 512", desk.count(1), 170);
    }
}
