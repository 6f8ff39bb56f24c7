/** Promises 14, 15 and 17: the order of the shapes, and which of them lies on top. */
public final class OrderTest {
    private static final Class<IllegalArgumentException> ARGUMENT = IllegalArgumentException.class;

    private final Due due = new Due();

    public static void main(String[] args) {
        OrderTest test = new OrderTest();
        test.free();
        test.bound();
        test.fromOrderNow();
        test.meeting();
        test.tenFree();
        test.tenBound();
        test.shapesWithoutRuns();
        test.orderOfNone();
        test.pathFollows();
        test.under();
        test.underSatin();
        test.underWrong();
        test.due.finish();
    }

    private static void tellBox(StitchDesk desk, int colour, int left, int top, int right, int bottom) {
        Told.outline(desk, colour, Told.box(left, top, right, bottom));
    }

    /** A box at the k-th place of a row; those of different places do not meet. */
    private static void tellApart(StitchDesk desk, int colour, int k) {
        tellBox(desk, colour, 20 * k, 0, 20 * k + 10, 10);
    }

    private void dueOrder(String what, StitchDesk desk, int changes, int... want) {
        due.is(what + ": reorder()", desk.reorder(), changes);
        for (int k = 0; k < want.length; k++) {
            due.is(what + ": order(" + k + ")", desk.order(k), want[k]);
        }
        due.is(what + ": behind the last", desk.order(want.length), -1);
        due.is(what + ": order(-1)", desk.order(-1), -1);
    }

    private void free() {
        StitchDesk desk = new StitchDesk();
        int[] colours = {1, 2, 1, 3, 2};
        for (int k = 0; k < colours.length; k++) {
            tellApart(desk, colours[k], k);
        }
        dueOrder("as told at first", new StitchDesk(), 0);
        due.is("told as third", desk.order(2), 2);
        dueOrder("colours together", desk, 2, 0, 2, 1, 4, 3);
        dueOrder("and again", desk, 2, 0, 2, 1, 4, 3);
    }

    private void bound() {
        StitchDesk desk = new StitchDesk();
        tellApart(desk, 1, 0);
        tellBox(desk, 2, 100, 100, 120, 120);
        tellBox(desk, 1, 110, 110, 130, 130);
        // Shape 1 stays ahead of 2, so 0 can't be first with one change only.
        dueOrder("1 ahead of 2", desk, 1, 1, 0, 2);
    }

    private void fromOrderNow() {
        StitchDesk desk = new StitchDesk();
        tellApart(desk, 1, 0);
        tellBox(desk, 2, 100, 100, 120, 120);
        tellBox(desk, 1, 110, 110, 130, 130);
        desk.reorder();
        tellApart(desk, 2, 3);
        due.is("a new shape comes last", desk.order(3), 3);
        dueOrder("from the order now", desk, 1, 1, 3, 0, 2);
        tellApart(desk, 5, 4);
        dueOrder("one more colour", desk, 2, 1, 3, 0, 2, 4);
    }

    /** Boxes round one from (100, 100) to (110, 110), first those that share a place with it, then those beside. */
    private void meeting() {
        int[][] mates = {{110, 100, 120, 110}, {110, 110, 120, 120}, {100, 110, 110, 120}, {90, 110, 100, 120},
            {90, 100, 100, 110}, {90, 90, 100, 100}, {100, 90, 110, 100}, {110, 90, 120, 100}, {102, 102, 108, 108},
            {90, 90, 120, 120}, {111, 100, 120, 110}, {100, 111, 110, 120}, {90, 100, 99, 110}, {100, 90, 110, 99}};
        for (int i = 0; i < mates.length; i++) {
            int[] m = mates[i];
            StitchDesk desk = new StitchDesk();
            tellBox(desk, 1, 100, 100, 110, 110);
            tellBox(desk, 2, 300, 300, 310, 310);
            tellBox(desk, 2, m[0], m[1], m[2], m[3]);
            tellBox(desk, 1, 500, 0, 510, 10);
            tellBox(desk, 1, m[0], m[1], m[2], m[3]);
            if (i < 10) {
                // 0, 2 and 4 stay in this order.
                dueOrder("a mate that meets, " + i, desk, 2, 0, 1, 2, 3, 4);
            } else {
                dueOrder("a mate that does not, " + i, desk, 1, 1, 2, 0, 3, 4);
            }
        }
    }

    private void tenFree() {
        StitchDesk desk = new StitchDesk();
        for (int k = 0; k < 10; k++) {
            tellApart(desk, k % 4, k);
        }
        dueOrder("ten apart", desk, 3, 0, 4, 8, 1, 5, 9, 2, 6, 3, 7);
    }

    private void tenBound() {
        StitchDesk desk = new StitchDesk();
        for (int k = 0; k < 10; k++) {
            tellBox(desk, k % 2 * 7, k, k, 100, 100);
        }
        dueOrder("ten that meet", desk, 9, 0, 1, 2, 3, 4, 5, 6, 7, 8, 9);
    }

    private void shapesWithoutRuns() {
        StitchDesk desk = new StitchDesk();
        Told.hatch(desk, 3, 20, 0, Told.box(1, 1, 9, 9));
        tellApart(desk, 4, 5);
        due.is("no runs", desk.shape(0, 8), 0);
        dueOrder("it has its colour all the same", desk, 1, 0, 1);
    }

    private void orderOfNone() {
        StitchDesk desk = new StitchDesk();
        due.is("order(0) with none", desk.order(0), -1);
        desk.begin(0, 2, 4, 0);
        Told.rings(desk, Told.box(0, 0, 9, 9));
        due.is("an open shape is in no order", desk.order(0), -1);
        due.is("nor put in one", desk.reorder(), 0);
        desk.end();
        due.is("then it is", desk.order(0), 0);
        due.is("of the greatest number", desk.order(Integer.MAX_VALUE), -1);
        due.is("of the least number", desk.order(Integer.MIN_VALUE), -1);
    }

    private void pathFollows() {
        StitchDesk desk = new StitchDesk();
        for (int k = 0; k < 4; k++) {
            tellApart(desk, k % 2, k);
        }
        desk.stitch();
        due.is("first stop", desk.stop(0), 4);
        desk.reorder();
        due.is("the path stays as it was", desk.stop(0), 4);
        desk.stitch();
        due.is("first stop, reordered", desk.stop(0), 9);
        due.is("no second one", desk.stop(10), -1);
    }

    private void under() {
        StitchDesk desk = new StitchDesk();
        Told.hatch(desk, 1, 10, 0, Told.box(200, 200, 300, 300));
        Told.hatch(desk, 2, 10, 0, Told.box(0, 0, 100, 100), Told.box(20, 20, 80, 80));
        Told.hatch(desk, 1, 10, 0, Told.box(10, 10, 30, 30));
        due.is("in one", desk.under(5, 5), 1);
        due.is("on a corner", desk.under(100, 100), 1);
        due.is("on an edge", desk.under(0, 50), 1);
        due.is("beside it", desk.under(101, 50), -1);
        due.is("in its hole", desk.under(50, 50), -1);
        due.is("on the hole's edge", desk.under(80, 50), 1);
        due.is("in both: the last", desk.under(15, 15), 2);
        due.is("in the other's hole", desk.under(25, 25), 2);
        due.is("places at the edges", desk.under(600, 600), -1);
        tellBox(desk, 1, 200, 200, 250, 250);
        due.is("a later one", desk.under(200, 200), 3);
        Told.hatch(desk, 2, 10, 0, Told.box(20, 20, 40, 40));
        // 2 stays behind 1, and 4 behind both, 3 behind 0: now 1, then 0, 2 and 3, then 4.
        due.is("two colours", desk.reorder(), 2);
        due.is("the last of three", desk.under(25, 25), 4);
        desk.begin(0, 0, 10, 0);
        Told.rings(desk, Told.box(0, 0, 600, 600));
        due.is("an open shape is under nothing", desk.under(400, 400), -1);
        underReordered();
    }

    private void underReordered() {
        StitchDesk desk = new StitchDesk();
        Told.satin(desk, 1, 10, new int[] {0, 0, 9, 0}, new int[] {0, 9, 9, 9});
        tellBox(desk, 2, 100, 100, 110, 110);
        tellBox(desk, 1, 50, 50, 60, 60);
        tellBox(desk, 2, 55, 55, 70, 70);
        due.is("one change", desk.reorder(), 1);
        due.is("last in the order", desk.order(3), 3);
        due.is("on top", desk.under(57, 57), 3);
    }

    private void underSatin() {
        StitchDesk desk = new StitchDesk();
        Told.satin(desk, 0, 10, new int[] {0, 0, 40, 40}, new int[] {40, 0, 0, 40});
        // The ring is (0, 0), (40, 40), (0, 40), (40, 0): two triangles, above and below.
        due.is("on the upper edge", desk.under(20, 0), 0);
        due.is("in the upper half", desk.under(20, 10), 0);
        due.is("in the lower half", desk.under(20, 30), 0);
        due.is("at the left", desk.under(10, 20), -1);
        due.is("at the right", desk.under(30, 20), -1);
        due.is("where they cross", desk.under(20, 20), 0);
        StitchDesk twice = new StitchDesk();
        Told.satin(twice, 0, 10, new int[] {120, 20, 120, 20}, new int[] {120, 0, 160, 0});
        Told.satin(twice, 0, 10, new int[] {20, 20, 20, 20}, new int[] {0, 20, 0, 60});
        due.is("a corner told twice", twice.under(120, 20), 0);
        due.is("right of a corner told twice", twice.under(121, 20), -1);
        due.is("another corner told twice", twice.under(20, 20), 1);
        due.is("below a corner told twice", twice.under(20, 21), -1);
        StitchDesk full = new StitchDesk();
        full.begin(0, 1, 4, 0);
        for (int i = 0; i < 16; i++) {
            full.rail(0, 10 * i, 0);
            full.rail(1, 10 * i, 50);
        }
        due.is("rails of 16", full.end(), 0);
        due.is("at their beginning", full.under(0, 25), 0);
        due.is("in their middle", full.under(75, 25), 0);
        due.is("at their end", full.under(150, 25), 0);
        due.is("behind it", full.under(151, 25), -1);
    }

    private void underWrong() {
        StitchDesk desk = new StitchDesk();
        due.isThrown("under(-1, 0)", ARGUMENT, () -> desk.under(-1, 0));
        due.isThrown("under(601, 0)", ARGUMENT, () -> desk.under(601, 0));
        due.isThrown("under(0, -1)", ARGUMENT, () -> desk.under(0, -1));
        due.isThrown("under(0, 601)", ARGUMENT, () -> desk.under(0, 601));
    }
}
