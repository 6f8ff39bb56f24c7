/** Promises 9 to 11, 16 and 18 to 20: the path that stitch makes, and what is asked of it. */
public final class PathTest {
    private static final Class<IndexOutOfBoundsException> INDEX = IndexOutOfBoundsException.class;
    private static final Class<IllegalArgumentException> ARGUMENT = IllegalArgumentException.class;

    private final Due due = new Due();

    public static void main(String[] args) {
        PathTest test = new PathTest();
        test.outline();
        test.steps();
        test.leaps();
        test.holesOfOutline();
        test.satin();
        test.satinInOnePlace();
        test.rows();
        test.columns();
        test.sums();
        test.differences();
        test.partsOfRow();
        test.trimInShape();
        test.stops();
        test.mostRecords();
        test.mostInAnotherOrder();
        test.crowded();
        test.pathStays();
        test.records();
        test.bytes();
        test.thread();
        test.needle();
        test.hoop();
        test.stop();
        test.due.finish();
    }

    /** The path is made anew, and has these records, dx, dy and kind one behind the other. */
    private void duePath(String what, StitchDesk desk, int... want) {
        due.is(what + ": stitch()", desk.stitch(), want.length / 3);
        due.is(what + ": count(1)", desk.count(1), want.length / 3);
        for (int i = 0; i < Math.min(want.length / 3, desk.count(1)); i++) {
            for (int f = 0; f < 3; f++) {
                due.is(what + ": record(" + i + ", " + f + ")", desk.record(i, f), want[3 * i + f]);
            }
        }
    }

    private void outline() {
        StitchDesk desk = new StitchDesk();
        Told.outline(desk, 0, new int[] {10, 5, 30, 5, 30, 25});
        duePath("a triangle", desk, 10, 5, 1, 20, 0, 0, 0, 20, 0, -20, -20, 0);
        desk.begin(0, 2, 4, 0);
        Told.rings(desk, Told.box(0, 0, 9, 9));
        duePath("an open shape has no part in it", desk, 10, 5, 1, 20, 0, 0, 0, 20, 0, -20, -20, 0);
    }

    private void steps() {
        StitchDesk desk = new StitchDesk();
        Told.outline(desk, 0, Told.box(0, 0, 150, 71));
        duePath("steps up and down", desk,
                50, 0, 0, 50, 0, 0, 50, 0, 0, 0, 35, 0, 0, 36, 0,
                -50, 0, 0, -50, 0, 0, -50, 0, 0, 0, -36, 0, 0, -35, 0);
        StitchDesk slant = new StitchDesk();
        Told.outline(slant, 0, new int[] {0, 0, 70, 1, 1, 72});
        duePath("one step of 70, two of 71", slant,
                70, 1, 0, -35, 35, 0, -34, 36, 0, -1, -36, 0, 0, -36, 0);
    }

    private void leaps() {
        StitchDesk near = new StitchDesk();
        Told.outline(near, 0, new int[] {300, 300, 301, 300, 300, 301});
        duePath("a leap of 300", near, 60, 60, 1, 60, 60, 1, 60, 60, 1, 60, 60, 1, 60, 60, 1,
                1, 0, 0, -1, 1, 0, 0, -1, 0);
        StitchDesk far = new StitchDesk();
        Told.outline(far, 0, new int[] {301, 0, 302, 0, 301, 1});
        duePath("a leap of 301 in x", far, 0, 0, 2, 60, 0, 1, 60, 0, 1, 60, 0, 1, 60, 0, 1, 61, 0, 1,
                1, 0, 0, -1, 1, 0, 0, -1, 0);
        StitchDesk deep = new StitchDesk();
        Told.outline(deep, 0, new int[] {0, 301, 1, 301, 0, 302});
        duePath("a leap of 301 in y", deep, 0, 0, 2, 0, 60, 1, 0, 60, 1, 0, 60, 1, 0, 60, 1, 0, 61, 1,
                1, 0, 0, -1, 1, 0, 0, -1, 0);
    }

    private void holesOfOutline() {
        StitchDesk near = new StitchDesk();
        Told.outline(near, 0, Told.box(0, 0, 60, 60), new int[] {20, 20, 30, 20, 20, 30});
        duePath("a hole one step away", near, 60, 0, 0, 0, 60, 0, -60, 0, 0, 0, -60, 0,
                20, 20, 0, 10, 0, 0, -10, 10, 0, 0, -10, 0);
        // From (50, 0) to (50, 80) in two steps: (50, 40) is out, in the notch.
        StitchDesk notched = new StitchDesk();
        Told.outline(notched, 0, new int[] {50, 0, 60, 0, 60, 70, 60, 100, 10, 100, 10, 70, 55, 70, 55, 10, 50, 10},
                new int[] {50, 80, 54, 80, 50, 84});
        due.is("a notch is no fault", notched.fault(0), 0);
        notched.stitch();
        due.is("the notched outline's length", notched.count(1), 1 + 9 + 2 + 3);
        due.is("over a notch: kind", notched.record(9 + 1, 2), 1);
        due.is("over a notch: dy", notched.record(9 + 1, 1), 40);
        due.is("behind the notch: kind", notched.record(12, 2), 0);
    }

    private void satin() {
        StitchDesk desk = new StitchDesk();
        Told.satin(desk, 0, 10, new int[] {30, 0, 0, 4}, new int[] {30, 20, 5, 20});
        // m is 3: rail 0 at x 30, 20, 10, 0 and y 0, 1, 2, 4; rail 1 at x 30, 21, 13, 5.
        duePath("satin to the left", desk, 30, 0, 1, 0, 20, 0, -10, -19, 0, 1, 19, 0, -11, -18, 0, 3, 18, 0,
                -13, -16, 0, 5, 16, 0);
    }

    private void satinInOnePlace() {
        StitchDesk desk = new StitchDesk();
        Told.satin(desk, 0, 10, new int[] {5, 5, 5, 5}, new int[] {5, 5, 5, 5});
        Told.outline(desk, 1, new int[] {5, 5, 9, 5, 5, 9});
        duePath("a run in one place is a run", desk, 5, 5, 1, 0, 0, 3, 4, 0, 0, -4, 4, 0, 0, -4, 0);
        due.is("a place is in it", desk.under(5, 5), 1);
        due.is("the next one is not", desk.under(4, 5), -1);
    }

    private StitchDesk hatched(int direction) {
        StitchDesk desk = new StitchDesk();
        Told.hatch(desk, 0, 10, direction, Told.box(0, 0, 40, 20));
        return desk;
    }

    private void rows() {
        duePath("rows", hatched(0), 40, 0, 0, 0, 10, 0, -40, 0, 0, 0, 10, 0, 40, 0, 0);
    }

    private void columns() {
        duePath("columns", hatched(1), 0, 20, 0, 10, 0, 0, 0, -20, 0, 10, 0, 0, 0, 20, 0, 10, 0, 0, 0, -20, 0,
                10, 0, 0, 0, 20, 0);
    }

    private void sums() {
        duePath("x + y", hatched(2), 10, 0, 1, -10, 10, 0, 0, 10, 0, 20, -20, 0, 10, 0, 0, -20, 20, 0, 10, 0, 0,
                20, -20, 0, 0, 10, 0, -10, 10, 0);
    }

    private void differences() {
        duePath("y - x", hatched(3), 40, 10, 1, -10, -10, 0, -10, 0, 0, 20, 20, 0, -10, 0, 0, -20, -20, 0,
                -10, 0, 0, 20, 20, 0, -10, 0, 0, -10, -10, 0);
    }

    private void partsOfRow() {
        StitchDesk desk = new StitchDesk();
        Told.hatch(desk, 0, 20, 0, Told.box(0, 0, 200, 40), Told.box(20, 5, 180, 35));
        // Row 1 falls: its right part first, then a leap over the hole.
        duePath("over a wide hole", desk, 66, 0, 0, 67, 0, 0, 67, 0, 0, 0, 20, 0, -20, 0, 0,
                -54, 0, 1, -53, 0, 1, -53, 0, 1, -20, 0, 0, 0, 20, 0, 66, 0, 0, 67, 0, 0, 67, 0, 0);
        StitchDesk narrow = new StitchDesk();
        Told.hatch(narrow, 0, 20, 0, Told.box(0, 0, 60, 40), Told.box(20, 5, 40, 35));
        duePath("over a hole with one step", narrow, 60, 0, 0, 0, 20, 0, -20, 0, 0, -20, 0, 0, -20, 0, 0,
                0, 20, 0, 60, 0, 0);
    }

    private void trimInShape() {
        StitchDesk desk = new StitchDesk();
        Told.hatch(desk, 0, 20, 0, Told.box(0, 10, 400, 30), Told.box(20, 15, 380, 25));
        duePath("a trim over a hole", desk, 0, 0, 2, 66, 3, 1, 67, 3, 1, 67, 4, 1, 66, 3, 1, 67, 3, 1, 67, 4, 1,
                -20, 0, 0, 0, 0, 2, -60, 0, 1, -60, 0, 1, -60, 0, 1, -60, 0, 1, -60, 0, 1, -60, 0, 1, -20, 0, 0);
    }

    private void stops() {
        StitchDesk desk = new StitchDesk();
        int[] small = {0, 0, 9, 0, 0, 9};
        Told.hatch(desk, 7, 20, 0, Told.box(1, 1, 9, 9));
        Told.outline(desk, 1, small);
        Told.hatch(desk, 7, 20, 0, Told.box(1, 1, 9, 9));
        Told.outline(desk, 1, small);
        Told.outline(desk, 2, small);
        due.is("no runs", desk.shape(0, 8), 0);
        // Shapes without runs stop nothing, neither ahead of the first one nor between two of one colour.
        duePath("stops", desk, 9, 0, 0, -9, 9, 0, 0, -9, 0, 9, 0, 0, -9, 9, 0, 0, -9, 0,
                0, 0, 3, 9, 0, 0, -9, 9, 0, 0, -9, 0);
    }

    private void tellLongSatin(StitchDesk desk) {
        desk.begin(0, 1, 4, 0);
        for (int i = 0; i < 14; i++) {
            desk.rail(0, i % 2 * 600, 0);
            desk.rail(1, i % 2 * 600, 10);
        }
        desk.end();
    }

    private void mostRecords() {
        StitchDesk desk = new StitchDesk();
        tellLongSatin(desk);
        due.is("13 edges of 600", desk.stitch(), 3901);
        Told.satin(desk, 0, 4, new int[] {600, 10, 404, 10}, new int[] {600, 20, 404, 20});
        due.is("99 more are 4000", desk.stitch(), 4000);
        due.is("the last record's dy", desk.record(3999, 1), 10);
        due.is("the last byte", desk.byteAt(11999), 0);
        StitchDesk over = new StitchDesk();
        tellLongSatin(over);
        due.is("before it", over.stitch(), 3901);
        Told.satin(over, 0, 4, new int[] {600, 11, 404, 11}, new int[] {600, 21, 404, 21});
        due.is("4001", over.stitch(), -1);
        due.is("no records then", over.count(1), 0);
        due.isThrown("none at all", INDEX, () -> over.record(0, 0));
        due.is("the needle rests", over.needle(0, 0), 0);
        due.is("NONE again", over.stitch(), -1);
        over.load(0, 0);
        over.load(1, 0);
        over.load(2, 0);
        due.is("decode behind it", over.decode(), 1);
    }

    /** Colours 0, 1, 0 make two stops and 4001 records; in another order there is one stop less. */
    private void mostInAnotherOrder() {
        StitchDesk desk = new StitchDesk();
        tellLongSatin(desk);
        Told.outline(desk, 1, new int[] {600, 20, 599, 20, 600, 21});
        Told.satin(desk, 0, 4, new int[] {600, 30, 508, 30, 600, 30}, new int[] {600, 40, 508, 40, 600, 40});
        due.is("4001 as told", desk.stitch(), -1);
        due.is("one change of colour", desk.reorder(), 1);
        due.is("4000 then", desk.stitch(), 4000);
        due.is("the stop", desk.stop(0), 3901 + 1 + 93);
    }

    /** Three holes of 22 edges that one row crosses, and an outside of 22, against the plain desk. */
    private void crowded() {
        int[][] rings = {outsideWithTeeth(), band(210), band(330), band(450)};
        for (int direction = 0; direction < 4; direction++) {
            StitchDesk desk = new StitchDesk();
            PlainDesk plain = new PlainDesk();
            desk.begin(0, 0, 20, direction);
            plain.begin(0, 0, 20, direction);
            Told.rings(desk, rings);
            for (int r = 0; r < 4; r++) {
                for (int i = 0; i < rings[r].length; i += 2) {
                    plain.corner(r, rings[r][i], rings[r][i + 1]);
                }
            }
            due.is("crowded: end()", desk.end(), 0);
            due.is("crowded, plain: end()", plain.end(), 0);
            due.is("crowded: runs in direction " + direction, desk.shape(0, 8), plain.shape(0, 8));
            due.is("crowded: stitch()", desk.stitch(), plain.stitch());
            for (int i = 0; i < plain.count(1); i++) {
                for (int f = 0; f < 3; f++) {
                    due.is("crowded: record(" + i + ", " + f + ")", desk.record(i, f), plain.record(i, f));
                }
            }
        }
    }

    private static int[] outsideWithTeeth() {
        int[] ring = new int[48];
        System.arraycopy(new int[] {0, 0, 600, 0, 600, 300, 200, 300}, 0, ring, 0, 8);
        for (int i = 0; i < 20; i++) {
            ring[8 + 2 * i] = i == 19 ? 0 : 190 - 10 * i;
            ring[9 + 2 * i] = i % 2 == 0 ? 50 : 300;
        }
        return ring;
    }

    private static int[] band(int left) {
        int[] ring = new int[48];
        for (int i = 0; i < 12; i++) {
            ring[2 * i] = left + 10 * i;
            ring[2 * i + 1] = i % 2 == 0 ? 60 : 160;
            ring[46 - 2 * i] = left + 10 * i;
            ring[47 - 2 * i] = ring[2 * i + 1] + 30;
        }
        return ring;
    }

    private void pathStays() {
        StitchDesk desk = new StitchDesk();
        Told.outline(desk, 0, new int[] {0, 0, 9, 0, 0, 9});
        desk.stitch();
        Told.outline(desk, 1, new int[] {0, 0, 9, 0, 0, 9});
        desk.reorder();
        due.is("the path is made by stitch alone", desk.count(1), 3);
        due.is("then it has all", desk.stitch(), 7);
        due.is("and again", desk.stitch(), 7);
    }

    private void records() {
        StitchDesk desk = new StitchDesk();
        Told.outline(desk, 0, new int[] {0, 0, 9, 0, 0, 9});
        desk.stitch();
        due.isThrown("record(3, 0)", INDEX, () -> desk.record(3, 0));
        due.isThrown("record(-1, 0)", INDEX, () -> desk.record(-1, 0));
        due.isThrown("record(3, 3)", INDEX, () -> desk.record(3, 3));
        due.isThrown("record(2, 3)", ARGUMENT, () -> desk.record(2, 3));
        due.isThrown("record(2, -1)", ARGUMENT, () -> desk.record(2, -1));
    }

    private void bytes() {
        StitchDesk desk = new StitchDesk();
        Told.outline(desk, 0, new int[] {50, 10, 0, 0, 50, 0});
        Told.outline(desk, 1, new int[] {450, 10, 451, 10, 450, 11});
        desk.stitch();
        int[] want = {16, 69, 138, 0, 138, 69, 0, 1, 138, 0, 68, 0, 48, 0, 0, 32, 0, 0};
        for (int i = 0; i < want.length; i++) {
            due.is("byteAt(" + i + ")", desk.byteAt(i), want[i]);
        }
        int all = 3 * desk.count(1);
        due.is("the last byte", desk.byteAt(all - 1), 0);
        due.is("the one before it", desk.byteAt(all - 2), 8);
        due.isThrown("byteAt behind the last", INDEX, () -> desk.byteAt(all));
        due.isThrown("byteAt(-1)", INDEX, () -> desk.byteAt(-1));
    }

    private void thread() {
        StitchDesk desk = new StitchDesk();
        Told.outline(desk, 0, new int[] {100, 0, 103, 4, 103, 0});
        Told.outline(desk, 1, new int[] {100, 0, 101, 1, 102, 0});
        desk.stitch();
        due.is("5 and 4 and 3", desk.thread(0), 12);
        due.is("two roots of 2, up, and 2", desk.thread(1), 6);
        due.is("behind two stops", desk.thread(2), 0);
        due.is("behind -1 stops", desk.thread(-1), 0);
    }

    private void needle() {
        StitchDesk desk = new StitchDesk();
        Told.outline(desk, 0, new int[] {10, 5, 30, 5, 30, 25});
        desk.stitch();
        int[] want = {0, 0, 10, 5, 30, 5, 30, 25, 10, 5};
        for (int i = 0; i < 5; i++) {
            due.is("needle(" + i + ", 0)", desk.needle(i, 0), want[2 * i]);
            due.is("needle(" + i + ", 1)", desk.needle(i, 1), want[2 * i + 1]);
        }
        due.isThrown("needle(5, 0)", INDEX, () -> desk.needle(5, 0));
        due.isThrown("needle(-1, 0)", INDEX, () -> desk.needle(-1, 0));
        due.isThrown("needle(5, 2)", INDEX, () -> desk.needle(5, 2));
        due.isThrown("needle(4, 2)", ARGUMENT, () -> desk.needle(4, 2));
        due.isThrown("needle(4, -1)", ARGUMENT, () -> desk.needle(4, -1));
    }

    private void hoop() {
        StitchDesk desk = new StitchDesk();
        Told.outline(desk, 0, new int[] {10, 5, 30, 5, 30, 25});
        due.is("no path", desk.hoop(0, 0), true);
        desk.stitch();
        due.is("the first place counts", desk.hoop(20, 20), false);
        due.is("just", desk.hoop(30, 25), true);
        due.is("too narrow", desk.hoop(29, 25), false);
        due.is("too low", desk.hoop(30, 24), false);
        due.is("wide", desk.hoop(Integer.MAX_VALUE, Integer.MAX_VALUE), true);
        due.is("below 0", desk.hoop(-1, 50), false);
        due.is("least", desk.hoop(50, Integer.MIN_VALUE), false);
    }

    private void stop() {
        StitchDesk desk = new StitchDesk();
        int[] small = {0, 0, 9, 0, 0, 9};
        for (int colour = 0; colour < 3; colour++) {
            Told.outline(desk, colour, small);
        }
        desk.stitch();
        int[] want = {3, 3, 3, 3, 7, 7, 7, 7, -1, -1, -1, -1};
        for (int i = 0; i < want.length; i++) {
            due.is("stop(" + i + ")", desk.stop(i), want[i]);
        }
        due.is("stop(-1)", desk.stop(-1), -1);
        due.is("stop of the least number", desk.stop(Integer.MIN_VALUE), -1);
        due.is("stop of the greatest number", desk.stop(Integer.MAX_VALUE), -1);
    }
}
