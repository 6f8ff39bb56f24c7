/** The edges that the promises 10 to 20 name: a test for each sentence. */
public final class AskingEdgeTest {
    private static final Class<IndexOutOfBoundsException> INDEX = IndexOutOfBoundsException.class;
    private static final Class<IllegalArgumentException> ARGUMENT = IllegalArgumentException.class;
    private static final int LEAST = Integer.MIN_VALUE;
    private static final int GREATEST = Integer.MAX_VALUE;

    private final Due due = new Due();

    public static void main(String[] args) {
        AskingEdgeTest test = new AskingEdgeTest();
        test.fieldsOfRecord();
        test.noSuchRecord();
        test.noSuchField();
        test.bytes();
        test.noSuchByte();
        test.loadAgain();
        test.loadOneMore();
        test.loadElsewhere();
        test.loadTooMany();
        test.loadNoByte();
        test.decode();
        test.decodeNothing();
        test.decodeNoRecord();
        test.decodeCut();
        test.decodeFirstOfSeveral();
        test.decodeInVain();
        test.fewestChanges();
        test.meetingShapesStay();
        test.howManyChanges();
        test.firstOfSeveral();
        test.earliestInOrderNow();
        test.order();
        test.noneInOrder();
        test.threadBehindStops();
        test.threadUp();
        test.threadOfNone();
        test.underLast();
        test.underNone();
        test.underNoPlace();
        test.needle();
        test.needleBehindTooMany();
        test.needleField();
        test.hoop();
        test.hoopOfFirstPlace();
        test.hoopOfNoPath();
        test.stop();
        test.stopOfNone();
        test.stopBelow();
        test.due.finish();
    }

    private void fieldsOfRecord() {
        due.of("Promise 10", "Of record i: dx (0), dy (1), kind (2).");
        StitchDesk desk = Told.tape(5, -7, 3, -121, 121, 1, 0, 0, 2, 121, -121, 0);
        due.isRow("all records", Told.records(desk), 5, -7, 3, -121, 121, 1, 0, 0, 2, 121, -121, 0);
    }

    private void noSuchRecord() {
        due.of("Promise 10", "IndexOutOfBoundsException if there is none such");
        StitchDesk none = new StitchDesk();
        due.isThrown("record(0, 0) of none", INDEX, () -> none.record(0, 0));
        StitchDesk desk = Told.tape(1, 1, 0, 2, 2, 0);
        due.is("record(1, 0)", desk.record(1, 0), 2);
        for (int i : new int[] {-1, 2, 3, 4000, LEAST, GREATEST}) {
            due.isThrown("record(" + i + ", 0)", INDEX, () -> desk.record(i, 0));
            due.isThrown("record(" + i + ", 3)", INDEX, () -> desk.record(i, 3));
        }
        desk.decode();
        due.isThrown("record(0, 0) of a path of none", INDEX, () -> desk.record(0, 0));
    }

    private void noSuchField() {
        due.of("Promise 10", "IllegalArgumentException for another f.");
        StitchDesk desk = Told.tape(1, 1, 0);
        for (int f : new int[] {-1, 3, 4, LEAST, GREATEST}) {
            due.isThrown("record(0, " + f + ")", ARGUMENT, () -> desk.record(0, f));
        }
    }

    private void bytes() {
        due.of("Promise 11", "Byte i, 0 .. 255, of the records, packed one behind the other.");
        StitchDesk desk = Told.tape(-121, -121, 0, 121, 0, 3, 0, 0, 0, -40, 1, 1);
        int[] got = new int[12];
        for (int i = 0; i < 12; i++) {
            got[i] = desk.byteAt(i);
        }
        due.isRow("all bytes", got, 10, 170, 170, 48, 1, 85, 0, 0, 0, 16, 4, 170);
        StitchDesk stitched = new StitchDesk();
        Told.outline(stitched, 0, new int[] {50, 10, 0, 0, 50, 0});
        stitched.stitch();
        int[] want = {16, 69, 138, 0, 138, 69, 0, 1, 138, 0, 68, 0};
        for (int i = 0; i < want.length; i++) {
            due.is("byteAt(" + i + ") of stitches", stitched.byteAt(i), want[i]);
        }
    }

    private void noSuchByte() {
        due.of("Promise 11", "IndexOutOfBoundsException if there is none such.");
        StitchDesk none = new StitchDesk();
        due.isThrown("byteAt(0) of none", INDEX, () -> none.byteAt(0));
        none.load(0, 1);
        due.isThrown("a loaded byte is none of the records", INDEX, () -> none.byteAt(0));
        StitchDesk desk = Told.tape(1, 0, 0, 2, 0, 0);
        due.is("byteAt(5)", desk.byteAt(5), 6);
        for (int i : new int[] {-1, 6, 7, 12000, LEAST, GREATEST, GREATEST / 3 + 1}) {
            due.isThrown("byteAt(" + i + ")", INDEX, () -> desk.byteAt(i));
        }
    }

    private void loadAgain() {
        due.of("Promise 12", "Byte i of what is loaded becomes b");
        StitchDesk desk = new StitchDesk();
        int[] told = {48, 255, 255, 255, 255, 255};
        for (int i = 0; i < 6; i++) {
            desk.load(i, told[i]);
        }
        int[] then = {0, 4, 1, 16, 1, 85};
        for (int i = 5; i >= 0; i--) {
            due.is("load(" + i + ", ..) again", desk.load(i, then[i]), 6);
        }
        due.is("count(2)", desk.count(2), 6);
        due.is("no path yet", desk.count(1), 0);
        due.is("decode()", desk.decode(), 2);
        due.isRow("the later bytes", Told.records(desk), 1, 1, 0, 121, 0, 1);
    }

    private void loadOneMore() {
        due.of("Promise 12", "with i as many as there are it is one more: how many there are");
        StitchDesk desk = new StitchDesk();
        for (int i = 0; i < 300; i++) {
            due.is("load(" + i + ", 0)", desk.load(i, 0), i + 1);
        }
        due.is("count(2)", desk.count(2), 300);
        due.is("decode()", desk.decode(), 100);
        due.is("then from 0 on again", desk.load(0, 0), 1);
    }

    private void loadElsewhere() {
        due.of("Promise 12", "IndexOutOfBoundsException if i is not so");
        StitchDesk desk = new StitchDesk();
        for (int total = 0; total < 4; total++) {
            for (int i : new int[] {-1, total + 1, total + 2, 1499, 1501, LEAST, GREATEST}) {
                due.isThrown("load(" + i + ", 0) of " + total, INDEX, () -> desk.load(i, 0));
                due.isThrown("load(" + i + ", 256) of " + total, INDEX, () -> desk.load(i, 256));
            }
            due.is("none of them is loaded", desk.count(2), total);
            desk.load(total, 0);
        }
        desk.load(4, 0);
        desk.load(5, 0);
        desk.decode();
        due.isThrown("load(1, 0) behind decode", INDEX, () -> desk.load(1, 0));
    }

    private void loadTooMany() {
        due.of("Promise 12", "or i is 1500");
        StitchDesk few = new StitchDesk();
        due.isThrown("load(1500, 0) of none", INDEX, () -> few.load(1500, 0));
        StitchDesk desk = new StitchDesk();
        for (int i = 0; i < 1500; i++) {
            desk.load(i, 0);
        }
        due.isThrown("load(1500, 0)", INDEX, () -> desk.load(1500, 0));
        due.isThrown("load(1500, -1)", INDEX, () -> desk.load(1500, -1));
        due.is("count(2)", desk.count(2), 1500);
        due.is("load(1499, 2)", desk.load(1499, 2), 1500);
        due.is("decode()", desk.decode(), 500);
        due.is("record(499, 0)", desk.record(499, 0), -1);
    }

    private void loadNoByte() {
        due.of("Promise 12", "IllegalArgumentException if b is not 0 .. 255.");
        StitchDesk desk = new StitchDesk();
        for (int total = 0; total < 3; total++) {
            for (int b : new int[] {-1, 256, LEAST, GREATEST}) {
                for (int i = 0; i <= total; i++) {
                    int at = i;
                    due.isThrown("load(" + i + ", " + b + ") of " + total, ARGUMENT, () -> desk.load(at, b));
                }
            }
            due.is("none of them is loaded", desk.count(2), total);
            due.is("load(" + total + ", 255)", desk.load(total, 255), total + 1);
            due.is("load(" + total + ", 0)", desk.load(total, 0), total + 1);
        }
        due.is("nor changed a byte", desk.decode(), 1);
    }

    private void decode() {
        due.of("Promise 13", "What is loaded becomes the path, and is loaded no more: how many records");
        StitchDesk desk = new StitchDesk();
        Told.outline(desk, 0, Told.box(0, 0, 9, 9));
        due.is("another path", desk.stitch(), 4);
        Told.loadGroup(desk, 3 << 20 | 1);
        due.is("decode()", desk.decode(), 1);
        due.is("count(1)", desk.count(1), 1);
        due.is("count(2)", desk.count(2), 0);
        due.isRow("the path", Told.records(desk), 1, 0, 3);
        due.is("its stop", desk.stop(0), 0);
        due.is("the shapes stay", desk.count(0), 1);
        due.is("they make their own path", desk.stitch(), 4);
        for (int records = 2; records < 160; records += 79) {
            StitchDesk more = new StitchDesk();
            for (int k = 0; k < records; k++) {
                Told.loadGroup(more, 2);
            }
            due.is("decode() of " + records, more.decode(), records);
            due.is("needle behind them", more.needle(records, 0), -records);
        }
    }

    private void decodeNothing() {
        due.of("Promise 13", "What is loaded becomes the path, and is loaded no more: how many records");
        StitchDesk desk = new StitchDesk();
        due.is("decode() of a new desk", desk.decode(), 0);
        Told.outline(desk, 0, Told.box(0, 0, 9, 9));
        desk.stitch();
        due.is("decode() of nothing", desk.decode(), 0);
        due.is("is a path of no records", desk.count(1), 0);
        Told.loadGroup(desk, 1);
        desk.decode();
        due.is("decode() again", desk.decode(), 0);
        due.is("is one too", desk.count(1), 0);
    }

    private void decodeNoRecord() {
        due.of("Promise 13", "if it has a group of three bytes that is no record (3 for a digit, a bit 22 or 23)");
        for (int group = 0; group < 4; group++) {
            for (int pair = 0; pair < 12; pair++) {
                dueNoRecord(group, 3 << 2 * pair, pair == 10);
            }
            dueNoRecord(group, 1 << 22, false);
            dueNoRecord(group, 1 << 23, false);
            dueNoRecord(group, 0x155555, true);
            dueNoRecord(group, 0x2AAAAA, true);
            dueNoRecord(group, 0x399999, true);
            dueNoRecord(group, 0x066666, true);
        }
    }

    private void dueNoRecord(int group, int bits, boolean right) {
        StitchDesk desk = new StitchDesk();
        for (int k = 0; k < 4; k++) {
            Told.loadGroup(desk, k == group ? bits : 0);
        }
        due.is("decode() of " + bits + " as group " + group, desk.decode(), right ? 4 : -1 - 3 * group);
        due.is("then loaded", desk.count(2), right ? 0 : 12);
    }

    private void decodeCut() {
        due.of("Promise 13", "or is cut in one");
        for (int total = 1; total < 12; total++) {
            StitchDesk desk = new StitchDesk();
            for (int i = 0; i < total; i++) {
                desk.load(i, 0);
            }
            boolean cut = total % 3 != 0;
            due.is("decode() of " + total, desk.decode(), cut ? -1 - total / 3 * 3 : total / 3);
            due.is("then loaded", desk.count(2), cut ? total : 0);
        }
    }

    private void decodeFirstOfSeveral() {
        due.of("Promise 13", "-1 and as much less as the place of that group's first byte");
        StitchDesk desk = new StitchDesk();
        int[] groups = {0, 1, 3, 2, 3 << 10, 1 << 22};
        for (int bits : groups) {
            Told.loadGroup(desk, bits);
        }
        desk.load(18, 255);
        due.is("the third group of three that are none", desk.decode(), -7);
        desk.load(8, 0);
        due.is("then the fifth", desk.decode(), -13);
        desk.load(13, 0);
        due.is("then the sixth", desk.decode(), -16);
        desk.load(15, 0);
        due.is("then the one that is cut", desk.decode(), -19);
        desk.load(19, 0);
        due.is("cut behind two bytes", desk.decode(), -19);
        desk.load(20, 0);
        due.is("whole, but no record", desk.decode(), -19);
        desk.load(18, 0);
        due.is("all are records", desk.decode(), 7);
    }

    private void decodeInVain() {
        due.of("Promise 13", "and nothing changes");
        StitchDesk desk = new StitchDesk();
        Told.outline(desk, 0, new int[] {10, 5, 30, 5, 30, 25});
        Told.outline(desk, 1, new int[] {10, 5, 30, 5, 30, 25});
        desk.stitch();
        int[] before = Told.records(desk);
        Told.loadGroup(desk, 1);
        Told.loadGroup(desk, 3);
        desk.load(6, 7);
        due.is("decode()", desk.decode(), -4);
        due.is("decode() again", desk.decode(), -4);
        due.isRow("the path", Told.records(desk), before);
        due.is("the needle", desk.needle(before.length / 3, 1), 5);
        due.is("the stop", desk.stop(0), 4);
        due.is("the bytes", desk.count(2), 7);
        due.is("one more", desk.load(7, 0), 8);
        desk.load(5, 2);
        desk.load(6, 0);
        desk.load(8, 1);
        due.is("decode() of records", desk.decode(), 3);
        due.isRow("the bytes are as they were", Told.records(desk), 1, 0, 0, -1, 0, 0, 1, 0, 0);
    }

    /** Shapes of these colours, none of which meets another. */
    private static StitchDesk apart(int... colours) {
        StitchDesk desk = new StitchDesk();
        for (int k = 0; k < colours.length; k++) {
            Told.outline(desk, colours[k], Told.box(20 * k, 0, 20 * k + 10, 10));
        }
        return desk;
    }

    private void dueOrder(String what, StitchDesk desk, int changes, int... want) {
        due.is(what + ": reorder()", desk.reorder(), changes);
        int[] got = new int[want.length];
        for (int k = 0; k < want.length; k++) {
            got[k] = desk.order(k);
        }
        due.isRow(what, got, want);
        due.is(what + ": behind the last", desk.order(want.length), -1);
    }

    private void fewestChanges() {
        due.of("Promise 14", "The order becomes one in which the fewest shapes have another colour "
                + "than the one before");
        dueOrder("three colours", apart(1, 2, 1, 3, 2), 2, 0, 2, 1, 4, 3);
        dueOrder("ten of four colours", apart(0, 1, 2, 3, 0, 1, 2, 3, 0, 1), 3, 0, 4, 8, 1, 5, 9, 2, 6, 3, 7);
        dueOrder("ten of eight colours", apart(7, 6, 5, 4, 3, 2, 1, 0, 6, 7), 7, 0, 9, 1, 8, 2, 3, 4, 5, 6, 7);
        dueOrder("two colours in turn", apart(0, 7, 0, 7, 0, 7, 0, 7, 0, 7), 1, 0, 2, 4, 6, 8, 1, 3, 5, 7, 9);
        StitchDesk empty = new StitchDesk();
        Told.hatch(empty, 1, 20, 0, Told.box(1, 1, 9, 9));
        Told.hatch(empty, 2, 20, 0, Told.box(21, 1, 29, 9));
        Told.hatch(empty, 1, 20, 0, Told.box(41, 1, 49, 9));
        due.is("no runs", empty.shape(0, 8), 0);
        dueOrder("a shape without runs has a colour", empty, 1, 0, 2, 1);
    }

    private void meetingShapesStay() {
        due.of("Promise 14", "of all orders in which every two shapes that meet stay in the order they are in");
        StitchDesk all = new StitchDesk();
        for (int k = 0; k < 10; k++) {
            Told.outline(all, k % 2 * 7, Told.box(k, k, 100, 100));
        }
        dueOrder("ten that meet", all, 9, 0, 1, 2, 3, 4, 5, 6, 7, 8, 9);
        StitchDesk two = apart(1, 2);
        Told.outline(two, 1, Told.box(25, 5, 35, 15));
        dueOrder("2 behind 1", two, 1, 1, 0, 2);
        StitchDesk chain = new StitchDesk();
        int[] colours = {1, 2, 1, 2};
        for (int k = 0; k < 4; k++) {
            Told.outline(chain, colours[k], Told.box(8 * k, 0, 8 * k + 10, 10));
        }
        Told.outline(chain, 1, Told.box(300, 300, 310, 310));
        dueOrder("each with the next one", chain, 3, 0, 1, 2, 4, 3);
        dueOrder("and again", chain, 3, 0, 1, 2, 4, 3);
        StitchDesk both = apart(1, 2);
        Told.outline(both, 2, Told.box(5, 5, 25, 15));
        Told.outline(both, 1, Told.box(5, 12, 25, 20));
        // 2 stays behind 0 and 1, and 3 behind 2: behind 1 alone it could go ahead of 0.
        dueOrder("2 behind 0 and 1", both, 2, 0, 1, 2, 3);
        StitchDesk twice = new StitchDesk();
        Told.outline(twice, 1, Told.box(30, 10, 55, 25));
        Told.outline(twice, 2, Told.box(0, 0, 15, 25));
        Told.outline(twice, 1, Told.box(20, 10, 45, 15));
        dueOrder("2 behind 0, free of 1", twice, 1, 0, 2, 1);
        Told.outline(twice, 1, Told.box(0, 20, 5, 45));
        dueOrder("3 behind 1", twice, 1, 1, 0, 2, 3);
        StitchDesk edge = apart(1, 2);
        Told.outline(edge, 1, Told.box(30, 10, 40, 20));
        dueOrder("one shared place", edge, 1, 1, 0, 2);
        StitchDesk beside = apart(1, 2);
        Told.outline(beside, 1, Told.box(31, 11, 40, 20));
        dueOrder("none shared", beside, 1, 0, 2, 1);
    }

    private void howManyChanges() {
        due.of("Promise 14", "how many that are");
        dueOrder("of no shapes", new StitchDesk(), 0);
        dueOrder("of one shape", apart(5), 0, 0);
        dueOrder("of one colour", apart(5, 5, 5), 0, 0, 1, 2);
        dueOrder("of two colours", apart(5, 0), 1, 0, 1);
        StitchDesk open = apart(1, 2);
        open.begin(3, 2, 4, 0);
        Told.rings(open, Told.box(200, 200, 210, 210));
        dueOrder("one that is open is not counted", open, 1, 0, 1);
        due.is("and stays open", open.end(), 0);
        dueOrder("then it is", open, 2, 0, 1, 2);
        Told.outline(open, 4, new int[] {0, 0, 40, 40, 40, 0, 0, 40});
        dueOrder("one that is gone is not", open, 2, 0, 1, 2);
    }

    private void firstOfSeveral() {
        due.of("Promise 14", "Of several it is the one whose first shape stands earliest in the order now, "
                + "then whose second one, and so on.");
        dueOrder("nothing to mend", apart(3, 2, 1, 0), 3, 0, 1, 2, 3);
        dueOrder("as few as can be", apart(1, 1, 2, 2), 1, 0, 1, 2, 3);
        dueOrder("the second one earliest", apart(2, 1, 3, 1, 2), 2, 0, 4, 1, 3, 2);
        StitchDesk last = apart(1, 2, 3);
        Told.outline(last, 1, Told.box(45, 5, 55, 15));
        // 3 stays behind 2: with the fewest changes 0 stands beside 3, so 1 or 2 comes first.
        dueOrder("0 can't be first", last, 2, 1, 2, 0, 3);
    }

    private void earliestInOrderNow() {
        due.of("Promise 14", "Of several it is the one whose first shape stands earliest in the order now, "
                + "then whose second one, and so on.");
        StitchDesk desk = apart(1, 2);
        Told.outline(desk, 1, Told.box(25, 5, 35, 15));
        dueOrder("2 behind 1", desk, 1, 1, 0, 2);
        Told.outline(desk, 2, Told.box(5, 5, 10, 15));
        // 3 stays behind 0: (0, 1, 3, 2) would have two changes as well, but 1 is the first now.
        dueOrder("from the order now", desk, 2, 1, 0, 2, 3);
        StitchDesk more = apart(1, 2);
        Told.outline(more, 1, Told.box(25, 5, 35, 15));
        dueOrder("2 behind 1 again", more, 1, 1, 0, 2);
        Told.outline(more, 2, Told.box(100, 100, 110, 110));
        dueOrder("a later one goes ahead", more, 1, 1, 3, 0, 2);
    }

    private void order() {
        due.of("Promise 15", "Which shape is the k-th (0 the first) in the order");
        StitchDesk desk = apart(1, 2, 1, 2, 1);
        for (int k = 0; k < 5; k++) {
            due.is("order(" + k + ") as told", desk.order(k), k);
        }
        desk.stitch();
        int[] before = Told.records(desk);
        dueOrder("another order", desk, 1, 0, 2, 4, 1, 3);
        due.isRow("the path is none of it", Told.records(desk), before);
        for (int n = 0; n < 5; n++) {
            due.is("shape(" + n + ", 4): the numbers are none of it", desk.shape(n, 4), 20 * n);
        }
    }

    private void noneInOrder() {
        due.of("Promise 15", "NONE if there is none such.");
        StitchDesk desk = new StitchDesk();
        due.is("order(0) of none", desk.order(0), -1);
        desk.begin(0, 2, 4, 0);
        Told.rings(desk, Told.box(0, 0, 9, 9));
        due.is("order(0), one open", desk.order(0), -1);
        desk.end();
        due.is("order(0)", desk.order(0), 0);
        for (int k : new int[] {-1, 1, 2, 10, LEAST, GREATEST}) {
            due.is("order(" + k + ")", desk.order(k), -1);
        }
        StitchDesk ten = apart(0, 0, 0, 0, 0, 0, 0, 0, 0, 0);
        due.is("order(9) of ten", ten.order(9), 9);
        due.is("order(10) of ten", ten.order(10), -1);
    }

    private void threadBehindStops() {
        due.of("Promise 16", "How much thread the stitches (kind 0) have that come behind n stops of the path "
                + "and ahead of the next");
        StitchDesk desk = Told.tape(3, 0, 0, 50, 0, 1, 60, 0, 2, 4, 0, 0, 70, 0, 3, 0, 5, 0, 0, 0, 3, 0, 0, 3,
                -6, 0, 0);
        int[] want = {3 + 4, 5, 0, 6, 0};
        for (int n = 0; n < want.length; n++) {
            due.is("thread(" + n + ")", desk.thread(n), want[n]);
        }
        StitchDesk first = Told.tape(0, 0, 3, 7, 0, 0);
        due.is("ahead of a first stop", first.thread(0), 0);
        due.is("behind it", first.thread(1), 7);
        StitchDesk stitched = apart(0, 1);
        stitched.stitch();
        due.is("thread(0) of two shapes", stitched.thread(0), 40);
        due.is("thread(1) of two shapes", stitched.thread(1), 40);
        due.is("thread(2) of two shapes", stitched.thread(2), 0);
    }

    private void threadUp() {
        due.of("Promise 16", "for each the root of dx * dx + dy * dy, up");
        int[][] cases = {{0, 0, 0}, {1, 0, 1}, {0, -1, 1}, {1, 1, 2}, {1, -2, 3}, {3, 4, 5}, {-3, 4, 5}, {3, 5, 6},
            {-70, 70, 99}, {70, 1, 71}, {119, -120, 169}, {121, 121, 172}, {121, 0, 121}, {-120, 22, 122},
            {-120, 23, 123}, {-5, -12, 13}, {5, 11, 13}};
        for (int[] c : cases) {
            due.is("thread of (" + c[0] + ", " + c[1] + ")", Told.tape(c[0], c[1], 0).thread(0), c[2]);
        }
        due.is("for each, not for all", Told.tape(1, 1, 0, 1, 1, 0, -1, 1, 0).thread(0), 6);
    }

    private void threadOfNone() {
        due.of("Promise 16", "0 if there are none.");
        due.is("of no path", new StitchDesk().thread(0), 0);
        StitchDesk desk = Told.tape(9, 9, 0, 0, 0, 3, 9, 9, 1, 9, 9, 2);
        due.is("thread(0)", desk.thread(0), 13);
        for (int n : new int[] {-1, 1, 2, 4000, LEAST, GREATEST}) {
            due.is("thread(" + n + ")", desk.thread(n), 0);
        }
    }

    private void underLast() {
        due.of("Promise 17", "The shape that comes last in the order of those that a place is in");
        StitchDesk desk = new StitchDesk();
        Told.hatch(desk, 0, 10, 0, Told.box(0, 0, 100, 100));
        Told.outline(desk, 1, Told.box(50, 50, 150, 150));
        Told.satin(desk, 2, 10, new int[] {80, 80, 120, 80}, new int[] {80, 120, 120, 120});
        due.is("in one", desk.under(49, 49), 0);
        due.is("in two, at a corner", desk.under(50, 50), 1);
        due.is("in three", desk.under(80, 80), 2);
        due.is("in three, at a corner", desk.under(100, 100), 2);
        due.is("in the last two", desk.under(120, 120), 2);
        due.is("in the second alone", desk.under(121, 121), 1);
        StitchDesk holed = new StitchDesk();
        Told.hatch(holed, 0, 10, 0, Told.box(0, 0, 100, 100));
        Told.hatch(holed, 1, 10, 0, Told.box(0, 0, 100, 100), Told.box(20, 20, 40, 40));
        due.is("in the last one's hole", holed.under(30, 30), 0);
        due.is("on its edge", holed.under(20, 30), 1);
        underInAnotherOrder();
    }

    /** A place that two shapes have is in the boxes of both, so these stay; the order still is what counts. */
    private void underInAnotherOrder() {
        StitchDesk desk = apart(1, 2);
        Told.outline(desk, 1, Told.box(25, 5, 35, 15));
        Told.outline(desk, 2, Told.box(200, 200, 210, 210));
        dueOrder("another order", desk, 1, 1, 3, 0, 2);
        due.is("in 0", desk.under(5, 5), 0);
        due.is("in 1", desk.under(21, 1), 1);
        due.is("in 1 and 2", desk.under(30, 10), 2);
        due.is("in 3", desk.under(205, 205), 3);
    }

    private void underNone() {
        due.of("Promise 17", "NONE if it is in none.");
        StitchDesk desk = new StitchDesk();
        due.is("of no shapes", desk.under(300, 300), -1);
        desk.begin(0, 0, 4, 0);
        Told.rings(desk, Told.box(0, 0, 600, 600));
        due.is("of one that is open", desk.under(300, 300), -1);
        desk.end();
        due.is("of one that is closed", desk.under(300, 300), 0);
        StitchDesk gone = new StitchDesk();
        Told.outline(gone, 0, new int[] {0, 0, 40, 40, 40, 0, 0, 40});
        due.is("of one that is gone", gone.under(0, 0), -1);
        StitchDesk ten = apart(0, 1, 2, 3, 4, 5, 6, 7, 0, 1);
        due.is("beside ten", ten.under(11, 5), -1);
        due.is("in the first", ten.under(10, 5), 0);
        due.is("in the tenth", ten.under(180, 5), 9);
    }

    private void underNoPlace() {
        due.of("Promise 17", "IllegalArgumentException if there is no such place.");
        StitchDesk none = new StitchDesk();
        StitchDesk desk = new StitchDesk();
        Told.outline(desk, 0, Told.box(0, 0, 600, 600));
        for (int w : new int[] {-1, 601, LEAST, GREATEST}) {
            due.isThrown("under(" + w + ", 0) of none", ARGUMENT, () -> none.under(w, 0));
            due.isThrown("under(" + w + ", 0)", ARGUMENT, () -> desk.under(w, 0));
            due.isThrown("under(600, " + w + ")", ARGUMENT, () -> desk.under(600, w));
            due.isThrown("under(" + w + ", " + w + ")", ARGUMENT, () -> desk.under(w, w));
        }
        due.is("under(600, 600)", desk.under(600, 600), 0);
        due.is("under(0, 0)", desk.under(0, 0), 0);
    }

    private void needle() {
        due.of("Promise 18", "Where the needle is behind the first i records: x (0), y (1).");
        StitchDesk desk = Told.tape(5, -7, 0, 10, 20, 1, -121, 0, 2, 1, 1, 3);
        int[] xs = {0, 5, 15, -106, -105};
        int[] ys = {0, -7, 13, 13, 14};
        for (int i = 0; i <= 4; i++) {
            due.is("needle(" + i + ", 0)", desk.needle(i, 0), xs[i]);
            due.is("needle(" + i + ", 1)", desk.needle(i, 1), ys[i]);
        }
        StitchDesk stitched = new StitchDesk();
        Told.outline(stitched, 0, new int[] {600, 600, 600, 500, 500, 600});
        stitched.stitch();
        due.is("the last x", stitched.needle(stitched.count(1), 0), 600);
        due.is("the last y", stitched.needle(stitched.count(1), 1), 600);
    }

    private void needleBehindTooMany() {
        due.of("Promise 18", "IndexOutOfBoundsException if i is not 0 .. how many there are");
        StitchDesk none = new StitchDesk();
        due.is("needle(0, 0) of none", none.needle(0, 0), 0);
        due.is("needle(0, 1) of none", none.needle(0, 1), 0);
        due.isThrown("needle(1, 0) of none", INDEX, () -> none.needle(1, 0));
        StitchDesk desk = Told.tape(1, 1, 0, 2, 2, 0);
        due.is("needle(0, 0)", desk.needle(0, 0), 0);
        due.is("needle(2, 0)", desk.needle(2, 0), 3);
        for (int i : new int[] {-1, 3, 4, 4001, LEAST, GREATEST}) {
            due.isThrown("needle(" + i + ", 0)", INDEX, () -> desk.needle(i, 0));
            due.isThrown("needle(" + i + ", 2)", INDEX, () -> desk.needle(i, 2));
        }
    }

    private void needleField() {
        due.of("Promise 18", "IllegalArgumentException for another f.");
        StitchDesk none = new StitchDesk();
        StitchDesk desk = Told.tape(1, 1, 0);
        for (int f : new int[] {-1, 2, 3, LEAST, GREATEST}) {
            due.isThrown("needle(0, " + f + ") of none", ARGUMENT, () -> none.needle(0, f));
            due.isThrown("needle(0, " + f + ")", ARGUMENT, () -> desk.needle(0, f));
            due.isThrown("needle(1, " + f + ")", ARGUMENT, () -> desk.needle(1, f));
        }
    }

    private void hoop() {
        due.of("Promise 19", "no two of them are further apart than w in x, or h in y");
        StitchDesk desk = Told.tape(50, 0, 1, -100, 10, 3, 20, -30, 2, 0, 0, 0);
        due.is("just", desk.hoop(100, 30), true);
        due.is("one less in x", desk.hoop(99, 30), false);
        due.is("one less in y", desk.hoop(100, 29), false);
        due.is("one more", desk.hoop(101, 31), true);
        due.is("wide and low", desk.hoop(GREATEST, 29), false);
        due.is("narrow and high", desk.hoop(99, GREATEST), false);
        due.is("greatest", desk.hoop(GREATEST, GREATEST), true);
        due.is("0", desk.hoop(0, 0), false);
        due.is("below 0 in x", desk.hoop(-1, 600), false);
        due.is("below 0 in y", desk.hoop(600, -1), false);
        due.is("least", desk.hoop(LEAST, LEAST), false);
        StitchDesk last = Told.tape(0, 5, 0, 7, 0, 0);
        due.is("the last place too", last.hoop(6, 5), false);
        due.is("the last place, just", last.hoop(7, 5), true);
        StitchDesk turned = Told.tape(-9, -8, 0, 5, 4, 0);
        due.is("places below 0", turned.hoop(9, 8), true);
        due.is("places below 0, narrow", turned.hoop(8, 8), false);
        due.is("places below 0, low", turned.hoop(9, 7), false);
    }

    private void hoopOfFirstPlace() {
        due.of("Promise 19", "Whether all of the needle's places, the first one too, fit a hoop");
        StitchDesk desk = Told.tape(100, 90, 1, 5, 5, 0, -5, -5, 0);
        due.is("without the first place", desk.hoop(5, 5), false);
        due.is("with it", desk.hoop(105, 95), true);
        due.is("with it, narrow", desk.hoop(104, 95), false);
        due.is("with it, low", desk.hoop(105, 94), false);
    }

    private void hoopOfNoPath() {
        due.of("Promise 19", "Whether all of the needle's places, the first one too, fit a hoop");
        StitchDesk desk = apart(0);
        due.is("no path", desk.hoop(0, 0), true);
        desk.stitch();
        due.is("a path", desk.hoop(0, 0), false);
        due.is("a path, wide", desk.hoop(10, 10), true);
        desk.decode();
        due.is("a path of no records", desk.hoop(0, 0), true);
        due.is("a path that rests", Told.tape(0, 0, 0, 0, 0, 3).hoop(0, 0), true);
    }

    private void stop() {
        due.of("Promise 20", "The first stop that is record i or comes behind it");
        StitchDesk desk = Told.tape(0, 0, 3, 1, 0, 0, 2, 0, 1, 3, 0, 2, 4, 0, 3, 0, 0, 3, 1, 1, 0);
        int[] want = {0, 4, 4, 4, 4, 5, -1};
        for (int i = 0; i < want.length; i++) {
            due.is("stop(" + i + ")", desk.stop(i), want[i]);
        }
        StitchDesk last = Told.tape(1, 0, 0, 0, 0, 3);
        due.is("the last record", last.stop(0), 1);
        due.is("the last record itself", last.stop(1), 1);
        due.is("behind it", last.stop(2), -1);
    }

    private void stopOfNone() {
        due.of("Promise 20", "NONE if there is none");
        due.is("of no path", new StitchDesk().stop(0), -1);
        StitchDesk desk = Told.tape(1, 0, 0, 2, 0, 1, 0, 0, 2);
        for (int i : new int[] {0, 1, 2, 3, 4, 4000, GREATEST}) {
            due.is("stop(" + i + ") of a path without", desk.stop(i), -1);
        }
        StitchDesk shorter = Told.tape(1, 0, 0, 0, 0, 3);
        Told.loadGroup(shorter, 1);
        shorter.decode();
        due.is("a stop of the path before", shorter.stop(0), -1);
    }

    private void stopBelow() {
        due.of("Promise 20", "(also if i is below 0)");
        StitchDesk desk = Told.tape(0, 0, 3, 0, 0, 3);
        due.is("stop(0)", desk.stop(0), 0);
        for (int i : new int[] {-1, -2, -4000, LEAST}) {
            due.is("stop(" + i + ")", desk.stop(i), -1);
        }
    }
}
