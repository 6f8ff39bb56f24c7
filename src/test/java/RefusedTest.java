import java.util.ArrayList;
import java.util.LinkedHashMap;
import java.util.List;
import java.util.Map;
import java.util.Set;
import java.util.TreeSet;
import java.util.function.Consumer;
import java.util.function.Supplier;
import java.util.function.ToIntFunction;

/**
 * A call that throws changes nothing. In many states each wrong call is made on one of two desks that are alike:
 * whatever is asked and done then, both answer the same.
 */
public final class RefusedTest {
    private static final int LEAST = Integer.MIN_VALUE;
    private static final int GREATEST = Integer.MAX_VALUE;
    private static final int[] BOW = {0, 0, 40, 40, 40, 0, 0, 40};
    /** Every exception that the document names, with the call that throws it. */
    private static final Set<String> NAMED = Set.of(
            "begin IllegalStateException", "begin UnsupportedOperationException", "begin IllegalArgumentException",
            "corner IllegalStateException", "corner IllegalArgumentException", "corner UnsupportedOperationException",
            "rail IllegalStateException", "rail IllegalArgumentException", "rail UnsupportedOperationException",
            "end IllegalStateException", "shape NoSuchElementException", "shape IllegalArgumentException",
            "record IndexOutOfBoundsException", "record IllegalArgumentException",
            "byteAt IndexOutOfBoundsException", "load IndexOutOfBoundsException", "load IllegalArgumentException",
            "under IllegalArgumentException", "needle IndexOutOfBoundsException", "needle IllegalArgumentException");

    private final Due due = new Due();
    private final Map<String, Supplier<StitchDesk>> states = new LinkedHashMap<>();
    private final Map<String, Consumer<StitchDesk>> calls = new LinkedHashMap<>();
    private final Set<String> thrown = new TreeSet<>();

    public static void main(String[] args) {
        RefusedTest test = new RefusedTest();
        test.gatherStates();
        test.gatherTellingCalls();
        test.gatherAskingCalls();
        test.nothingChanges();
        test.allAtOnce();
        test.othersNeverThrow();
        test.due.finish();
    }

    private void gatherStates() {
        states.put("new", StitchDesk::new);
        states.put("rings open", () -> opened(0, Told.box(10, 10, 60, 60), new int[] {20, 20, 30, 20, 20, 30}));
        states.put("outline open without corners", () -> opened(2));
        states.put("a crossed ring open", () -> opened(2, BOW));
        states.put("full rings open", () -> opened(2, Told.squareOf24(0, 0, 600), Told.squareOf24(60, 60, 60),
                Told.squareOf24(180, 180, 60), Told.squareOf24(300, 300, 60)));
        states.put("rails open", () -> openedRails(2, 2));
        states.put("one rail open", () -> openedRails(0, 3));
        states.put("full rails open", () -> openedRails(16, 16));
        states.put("behind a fault", RefusedTest::withFault);
        states.put("shapes and a path", RefusedTest::stitchedShapes);
        states.put("shapes in another order", RefusedTest::reorderedShapes);
        states.put("ten shapes", () -> shapes(10));
        states.put("nine shapes and one open", RefusedTest::nineAndOneOpen);
        states.put("bytes loaded", RefusedTest::loaded);
        states.put("bytes loaded and a path", RefusedTest::loadedAndStitched);
        states.put("1500 bytes loaded", RefusedTest::fullyLoaded);
        states.put("a path that was read", () -> Told.tape(5, 5, 0, -3, 9, 1, 0, 0, 3, 1, 1, 0));
        states.put("too many records", RefusedTest::overfull);
    }

    private static StitchDesk opened(int fill, int[]... rings) {
        StitchDesk desk = new StitchDesk();
        desk.begin(3, fill, 7, 1);
        Told.rings(desk, rings);
        return desk;
    }

    private static StitchDesk openedRails(int one, int two) {
        StitchDesk desk = new StitchDesk();
        desk.begin(3, 1, 7, 1);
        for (int i = 0; i < one; i++) {
            desk.rail(0, 10 * i, 5);
        }
        for (int i = 0; i < two; i++) {
            desk.rail(1, 10 * i, 50);
        }
        return desk;
    }

    private static StitchDesk shapes(int total) {
        StitchDesk desk = new StitchDesk();
        for (int n = 0; n < total; n++) {
            Told.outline(desk, n % 3, Told.box(30 * n, 10 * n, 30 * n + 20, 10 * n + 20));
        }
        return desk;
    }

    private static StitchDesk withFault() {
        StitchDesk desk = shapes(1);
        Told.outline(desk, 0, Told.box(0, 0, 100, 100), new int[] {10, 10, 30, 30, 30, 10, 10, 30});
        return desk;
    }

    private static StitchDesk stitchedShapes() {
        StitchDesk desk = shapes(4);
        Told.hatch(desk, 5, 9, 2, Told.box(300, 300, 360, 340));
        desk.stitch();
        return desk;
    }

    private static StitchDesk reorderedShapes() {
        StitchDesk desk = shapes(7);
        desk.reorder();
        desk.stitch();
        return desk;
    }

    private static StitchDesk nineAndOneOpen() {
        StitchDesk desk = shapes(9);
        desk.begin(1, 2, 4, 0);
        Told.rings(desk, Told.box(500, 500, 520, 520));
        return desk;
    }

    private static StitchDesk loaded() {
        StitchDesk desk = new StitchDesk();
        Told.loadGroup(desk, 1);
        Told.loadGroup(desk, 3 << 20 | 2 << 10);
        return desk;
    }

    private static StitchDesk loadedAndStitched() {
        StitchDesk desk = stitchedShapes();
        Told.loadGroup(desk, 1);
        desk.load(3, 255);
        return desk;
    }

    private static StitchDesk fullyLoaded() {
        StitchDesk desk = new StitchDesk();
        for (int i = 0; i < 1500; i++) {
            desk.load(i, i % 3 == 2 ? 1 : 0);
        }
        return desk;
    }

    private static StitchDesk overfull() {
        StitchDesk desk = new StitchDesk();
        desk.begin(0, 1, 4, 0);
        for (int i = 0; i < 16; i++) {
            desk.rail(0, i % 2 * 600, 0);
            desk.rail(1, i % 2 * 600, 10);
        }
        desk.end();
        desk.stitch();
        return desk;
    }

    private void gatherTellingCalls() {
        int[][] begins = {{0, 0, 4, 0}, {7, 1, 20, 3}, {-1, 0, 4, 0}, {8, 0, 4, 0}, {5, -1, 4, 0}, {5, 3, 4, 0},
            {5, 2, 3, 0}, {5, 2, 21, 0}, {5, 2, 9, -1}, {5, 2, 9, 4}, {LEAST, LEAST, LEAST, LEAST}};
        for (int[] b : begins) {
            calls.put("begin " + b[0] + " " + b[1] + " " + b[2] + " " + b[3], d -> d.begin(b[0], b[1], b[2], b[3]));
        }
        int[][] corners = {{0, 300, 299}, {1, 300, 299}, {3, 300, 299}, {-1, 300, 299}, {2, 300, 299}, {4, 300, 299},
            {0, -1, 5}, {0, 601, 5}, {1, 5, -1}, {1, 5, 601}, {3, LEAST, 5}, {0, GREATEST, 5}, {GREATEST, 5, 5},
            {LEAST, 5, 5}};
        for (int[] c : corners) {
            calls.put("corner " + c[0] + " " + c[1] + " " + c[2], d -> d.corner(c[0], c[1], c[2]));
            calls.put("rail " + c[0] + " " + c[1] + " " + c[2], d -> d.rail(c[0], c[1], c[2]));
        }
        calls.put("end", StitchDesk::end);
    }

    private void gatherAskingCalls() {
        int[][] pairs = {{-1, 0}, {0, -1}, {0, 2}, {0, 3}, {0, 10}, {10, 0}, {4000, 0}, {4001, 1}, {LEAST, 0},
            {GREATEST, 0}, {0, LEAST}, {0, GREATEST}, {1, 2}, {2, -1}};
        for (int[] p : pairs) {
            String numbers = " " + p[0] + " " + p[1];
            calls.put("shape" + numbers, d -> d.shape(p[0], p[1]));
            calls.put("record" + numbers, d -> d.record(p[0], p[1]));
            calls.put("needle" + numbers, d -> d.needle(p[0], p[1]));
        }
        for (int i : new int[] {-1, 0, 12, 12000, 1500, LEAST, GREATEST}) {
            calls.put("byteAt " + i, d -> d.byteAt(i));
        }
        int[][] loads = {{-1, 7}, {0, -1}, {0, 256}, {1, 256}, {2, LEAST}, {3, 300}, {4, -9}, {5, 999}, {6, 256},
            {7, 7}, {1499, 256}, {1500, 7}, {1500, 256}, {1501, 7}, {LEAST, 7}, {GREATEST, 7}, {0, GREATEST}};
        for (int[] w : loads) {
            calls.put("load " + w[0] + " " + w[1], d -> d.load(w[0], w[1]));
        }
        int[][] places = {{-1, 5}, {601, 5}, {5, -1}, {5, 601}, {LEAST, GREATEST}};
        for (int[] p : places) {
            calls.put("under " + p[0] + " " + p[1], d -> d.under(p[0], p[1]));
        }
    }

    /** What a call throws, or an empty text. */
    private static String outcome(Consumer<StitchDesk> call, StitchDesk desk) {
        try {
            call.accept(desk);
            return "";
        } catch (RuntimeException e) {
            return e.getClass().getSimpleName();
        }
    }

    private void nothingChanges() {
        due.of("Terms", "A call that throws changes nothing.");
        for (String state : states.keySet()) {
            for (String call : calls.keySet()) {
                if (outcome(calls.get(call), states.get(state).get()).isEmpty()) {
                    continue;
                }
                for (int way = 0; way < 5; way++) {
                    StitchDesk told = states.get(state).get();
                    String exception = outcome(calls.get(call), told);
                    thrown.add(call.split(" ")[0] + " " + exception);
                    dueAlike(state + ", then " + call + " (" + way + ")", told, states.get(state).get(), way);
                }
            }
        }
        due.isTrue("all the exceptions that are named, and no others: " + thrown, thrown.equals(NAMED));
    }

    /** All wrong calls of a state, one behind the other. */
    private void allAtOnce() {
        due.of("Terms", "A call that throws changes nothing.");
        for (String state : states.keySet()) {
            for (int way = 0; way < 5; way++) {
                StitchDesk told = states.get(state).get();
                for (Consumer<StitchDesk> call : calls.values()) {
                    if (!outcome(call, states.get(state).get()).isEmpty()) {
                        outcome(call, told);
                    }
                }
                dueAlike(state + ", then all wrong calls (" + way + ")", told, states.get(state).get(), way);
            }
        }
    }

    private void dueAlike(String what, StitchDesk told, StitchDesk alike, int way) {
        List<Integer> got = new ArrayList<>();
        List<Integer> want = new ArrayList<>();
        goOn(told, way, got);
        goOn(alike, way, want);
        due.isTrue(what + ": both desks alike", got.equals(want));
    }

    /** The open shape and the loaded bytes are seen by what is done with them, so each way has its own desks. */
    private static void goOn(StitchDesk desk, int way, List<Integer> answers) {
        look(desk, answers);
        switch (way) {
            case 0 -> endAndStitch(desk, answers);
            case 1 -> tellMore(desk, answers);
            case 2 -> answers.add(desk.decode());
            case 3 -> {
                endAndStitch(desk, answers);
                answers.add(answer(d -> {
                    d.begin(2, 2, 5, 1);
                    Told.rings(d, Told.box(400, 100, 420, 120));
                    return d.end();
                }, desk));
            }
            default -> {
                answers.add(desk.load(0, 1));
                answers.add(desk.decode());
                answers.add(desk.reorder());
            }
        }
        look(desk, answers);
    }

    private static void endAndStitch(StitchDesk desk, List<Integer> answers) {
        answers.add(answer(StitchDesk::end, desk));
        look(desk, answers);
        answers.add(desk.reorder());
        answers.add(desk.stitch());
    }

    private static void tellMore(StitchDesk desk, List<Integer> answers) {
        for (int ring = 0; ring < 4; ring++) {
            int row = ring;
            answers.add(answer(d -> d.corner(row, 555, 444), desk));
            answers.add(answer(d -> d.rail(row % 2, 555, 444), desk));
        }
        answers.add(answer(StitchDesk::end, desk));
    }

    private static int answer(ToIntFunction<StitchDesk> call, StitchDesk desk) {
        try {
            return call.applyAsInt(desk);
        } catch (RuntimeException e) {
            return -1000;
        }
    }

    private static void look(StitchDesk desk, List<Integer> answers) {
        for (int w = 0; w < 4; w++) {
            answers.add(desk.fault(w));
            answers.add(desk.count(w));
            answers.add(desk.thread(w));
        }
        for (int n = 0; n < desk.count(0); n++) {
            answers.add(desk.order(n));
            for (int what = 0; what < 10; what++) {
                answers.add(desk.shape(n, what));
            }
        }
        for (int i = 0; i < desk.count(1); i++) {
            for (int f = 0; f < 3; f++) {
                answers.add(desk.record(i, f));
                answers.add(desk.byteAt(3 * i + f));
            }
        }
        answers.add(desk.needle(desk.count(1), 0));
        answers.add(desk.needle(desk.count(1), 1));
        answers.add(desk.stop(0));
        answers.add(desk.hoop(50, 50) ? 1 : 0);
        for (int place = 0; place <= 600; place += 60) {
            answers.add(desk.under(place, place / 3));
            answers.add(desk.under(place, place));
        }
    }

    private void othersNeverThrow() {
        due.of("The public face", "public int fault(int w)");
        int[] any = {LEAST, -4001, -1, 0, 1, 2, 3, 4, 9, 10, 600, 1499, 1500, 3999, 4000, 12000, GREATEST};
        for (String state : states.keySet()) {
            StitchDesk desk = states.get(state).get();
            for (int number : any) {
                String what = state + ", " + number + ": ";
                due.is(what + "fault", outcome(d -> d.fault(number), desk).isEmpty(), true);
                due.is(what + "count", outcome(d -> d.count(number), desk).isEmpty(), true);
                due.is(what + "order", outcome(d -> d.order(number), desk).isEmpty(), true);
                due.is(what + "thread", outcome(d -> d.thread(number), desk).isEmpty(), true);
                due.is(what + "stop", outcome(d -> d.stop(number), desk).isEmpty(), true);
                due.is(what + "hoop", outcome(d -> d.hoop(number, number), desk).isEmpty(), true);
            }
            due.is(state + ": stitch", outcome(StitchDesk::stitch, desk).isEmpty(), true);
            due.is(state + ": reorder", outcome(StitchDesk::reorder, desk).isEmpty(), true);
            due.is(state + ": decode", outcome(StitchDesk::decode, desk).isEmpty(), true);
            due.is(state + ": stitch again", outcome(StitchDesk::stitch, desk).isEmpty(), true);
        }
    }
}
