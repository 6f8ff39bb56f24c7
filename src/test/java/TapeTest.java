/** Promises 12 and 13, and 11 with them: bytes loaded, read, and packed again. */
public final class TapeTest {
    private static final Class<IndexOutOfBoundsException> INDEX = IndexOutOfBoundsException.class;
    private static final Class<IllegalArgumentException> ARGUMENT = IllegalArgumentException.class;

    private final Due due = new Due();

    public static void main(String[] args) {
        TapeTest test = new TapeTest();
        test.load();
        test.loadAll();
        test.decode();
        test.decodeNothing();
        test.kinds();
        test.everyNumber();
        test.noDigit();
        test.highBits();
        test.cut();
        test.firstWrongGroup();
        test.movesOfAllKinds();
        test.due.finish();
    }

    private static void loadBytes(StitchDesk desk, int... bytes) {
        for (int b : bytes) {
            desk.load(desk.count(2), b);
        }
    }

    private static void loadGroup(StitchDesk desk, int bits) {
        loadBytes(desk, bits >> 16, (bits >> 8) & 255, bits & 255);
    }

    private void load() {
        StitchDesk desk = new StitchDesk();
        due.isThrown("load(-1, 0)", INDEX, () -> desk.load(-1, 0));
        due.isThrown("load(1, 0) with none", INDEX, () -> desk.load(1, 0));
        due.isThrown("load(0, -1)", ARGUMENT, () -> desk.load(0, -1));
        due.isThrown("load(0, 256)", ARGUMENT, () -> desk.load(0, 256));
        due.isThrown("load(1, 256): the place first", INDEX, () -> desk.load(1, 256));
        due.is("nothing is loaded", desk.count(2), 0);
        due.is("load(0, 255)", desk.load(0, 255), 1);
        due.is("load(1, 0)", desk.load(1, 0), 2);
        due.is("load(0, 0) again", desk.load(0, 0), 2);
        due.is("load(2, 1)", desk.load(2, 1), 3);
        due.is("the path is not made yet", desk.count(1), 0);
        due.is("the later byte counts", desk.decode(), 1);
        due.is("dx", desk.record(0, 0), 1);
    }

    private void loadAll() {
        StitchDesk desk = new StitchDesk();
        for (int i = 0; i < 1500; i++) {
            due.is("load(" + i + ", 0)", desk.load(i, 0), i + 1);
        }
        due.isThrown("load(1500, 0)", INDEX, () -> desk.load(1500, 0));
        due.isThrown("load(1500, 256)", INDEX, () -> desk.load(1500, 256));
        due.is("load(1499, 1)", desk.load(1499, 1), 1500);
        due.is("500 records", desk.decode(), 500);
        due.is("the last one's dx", desk.record(499, 0), 1);
    }

    private void decode() {
        StitchDesk desk = new StitchDesk();
        Told.outline(desk, 0, Told.box(0, 0, 9, 9));
        desk.stitch();
        loadBytes(desk, 16, 69, 138, 0, 138, 69);
        due.is("decode()", desk.decode(), 2);
        due.is("they are the path", desk.count(1), 2);
        due.is("they are loaded no more", desk.count(2), 0);
        int[] want = {50, 10, 1, -50, -10, 0};
        for (int k = 0; k < 6; k++) {
            due.is("record(" + k / 3 + ", " + k % 3 + ")", desk.record(k / 3, k % 3), want[k]);
        }
        due.is("byteAt(1)", desk.byteAt(1), 69);
        due.is("shapes stay", desk.count(0), 1);
        due.is("stitch makes the path anew", desk.stitch(), 4);
    }

    private void decodeNothing() {
        StitchDesk desk = new StitchDesk();
        Told.outline(desk, 0, Told.box(0, 0, 9, 9));
        desk.stitch();
        due.is("decode of nothing", desk.decode(), 0);
        due.is("is a path of nothing", desk.count(1), 0);
    }

    private void kinds() {
        StitchDesk desk = new StitchDesk();
        for (int kind = 0; kind < 4; kind++) {
            loadBytes(desk, kind << 4, 0, 0);
        }
        due.is("four kinds", desk.decode(), 4);
        for (int kind = 0; kind < 4; kind++) {
            due.is("kind " + kind, desk.record(kind, 2), kind);
            due.is("its dx", desk.record(kind, 0), 0);
        }
    }

    /** Each number's five digits, once as dx and once as dy, and packed again as they came. */
    private void everyNumber() {
        int[] worth = {1, 3, 9, 27, 81};
        for (int number = 0; number < 243; number++) {
            int bits = 0;
            int value = 0;
            int rest = number;
            for (int k = 0; k < 5; k++) {
                int digit = rest % 3;
                bits |= digit << (2 * k);
                value += digit == 1 ? worth[k] : digit == 2 ? -worth[k] : 0;
                rest /= 3;
            }
            StitchDesk desk = new StitchDesk();
            loadGroup(desk, bits);
            loadGroup(desk, bits << 10);
            due.is("two records of " + value, desk.decode(), 2);
            due.is("dx " + value, desk.record(0, 0), value);
            due.is("dy beside it", desk.record(0, 1), 0);
            due.is("dy " + value, desk.record(1, 1), value);
            int packed = (desk.byteAt(0) << 16) + (desk.byteAt(1) << 8) + desk.byteAt(2);
            due.is("packed again: " + value, packed, bits);
            packed = (desk.byteAt(3) << 16) + (desk.byteAt(4) << 8) + desk.byteAt(5);
            due.is("packed again as dy: " + value, packed, bits << 10);
        }
    }

    private void noDigit() {
        for (int k = 0; k < 10; k++) {
            StitchDesk desk = new StitchDesk();
            loadGroup(desk, 3 << (2 * k));
            due.is("digit 3 at " + k, desk.decode(), -1);
            due.is("it stays loaded", desk.count(2), 3);
        }
        StitchDesk beside = new StitchDesk();
        loadGroup(beside, 0x0A5A5A);
        due.is("1 beside 2 is no 3", beside.decode(), 1);
        due.is("its dx", beside.record(0, 0), -1 - 3 + 9 + 27 - 81);
        StitchDesk odd = new StitchDesk();
        loadGroup(odd, 2 | 1 << 2 | 3 << 20);
        due.is("2 behind 1, and kind 3", odd.decode(), 1);
    }

    private void highBits() {
        for (int bit = 22; bit < 24; bit++) {
            StitchDesk desk = new StitchDesk();
            loadGroup(desk, 1 << bit);
            due.is("bit " + bit, desk.decode(), -1);
        }
    }

    private void cut() {
        for (int most = 1; most < 8; most++) {
            StitchDesk desk = new StitchDesk();
            for (int k = 0; k < most; k++) {
                desk.load(k, 0);
            }
            int whole = most / 3;
            due.is(most + " bytes", desk.decode(), most % 3 == 0 ? whole : -1 - 3 * whole);
            due.is(most + " bytes: left", desk.count(2), most % 3 == 0 ? 0 : most);
        }
    }

    private void firstWrongGroup() {
        StitchDesk desk = new StitchDesk();
        Told.outline(desk, 0, Told.box(0, 0, 9, 9));
        desk.stitch();
        loadBytes(desk, 0, 0, 0, 0, 0, 0, 0, 0, 3, 255, 255, 255, 0);
        due.is("the third group", desk.decode(), -7);
        due.is("the path stays", desk.count(1), 4);
        due.is("the path's record stays", desk.record(0, 0), 9);
        due.is("all stays loaded", desk.count(2), 13);
        desk.load(8, 2);
        due.is("then the fourth", desk.decode(), -10);
        desk.load(9, 0);
        desk.load(10, 0);
        desk.load(11, 0);
        due.is("then the cut one", desk.decode(), -13);
        desk.load(13, 0);
        desk.load(14, 0);
        due.is("then all", desk.decode(), 5);
        due.is("record(2, 0)", desk.record(2, 0), -1);
    }

    /** What was read may move at trims and stops; they are no stitches all the same. */
    private void movesOfAllKinds() {
        StitchDesk desk = new StitchDesk();
        loadGroup(desk, 2);
        loadGroup(desk, 3 << 20 | 1 << 10 | 1 << 8);
        loadGroup(desk, 2 << 20 | 2 << 18);
        loadGroup(desk, 1 << 8 | 1 << 18);
        loadGroup(desk, 3 << 20);
        due.is("decode()", desk.decode(), 5);
        int[] xs = {0, -1, 80, 80, 161, 161};
        int[] ys = {0, 0, 1, -80, 1, 1};
        for (int i = 0; i < 6; i++) {
            due.is("needle(" + i + ", 0)", desk.needle(i, 0), xs[i]);
            due.is("needle(" + i + ", 1)", desk.needle(i, 1), ys[i]);
        }
        due.is("thread(0)", desk.thread(0), 1);
        due.is("thread(1)", desk.thread(1), 115);
        due.is("thread(2)", desk.thread(2), 0);
        due.is("stop(0)", desk.stop(0), 1);
        due.is("stop(2)", desk.stop(2), 4);
        due.is("hoop(162, 81)", desk.hoop(162, 81), true);
        due.is("hoop(161, 81)", desk.hoop(161, 81), false);
        due.is("hoop(162, 80)", desk.hoop(162, 80), false);
    }
}
