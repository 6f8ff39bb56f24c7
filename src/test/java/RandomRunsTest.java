import java.util.Random;
import java.util.function.LongSupplier;

/** Runs of random calls, with fixed seeds: the desk answers what the plain one answers. */
public final class RandomRunsTest {
    private final Due due;
    private final Random random;
    private final String run;
    private final StitchDesk desk = new StitchDesk();
    private final PlainDesk plain = new PlainDesk();
    private int calls;

    private RandomRunsTest(Due due, int seed) {
        this.due = due;
        this.random = new Random(seed);
        this.run = "seed " + seed + ", call ";
    }

    public static void main(String[] args) {
        int first = args.length > 0 ? Integer.parseInt(args[0]) : 1;
        int runs = args.length > 1 ? Integer.parseInt(args[1]) : 400;
        Due due = new Due();
        for (int seed = first; seed < first + runs && !due.failed(); seed++) {
            new RandomRunsTest(due, seed).play();
        }
        due.finish();
    }

    private void play() {
        int shapes = random.nextInt(12);
        for (int i = 0; i < shapes && calls < 350; i++) {
            tellShape();
            for (int k = random.nextInt(6); k > 0; k--) {
                askAnything();
            }
        }
        while (calls < 480) {
            askAnything();
        }
        stitchAndCompare();
        if (reorder() > 0) {
            stitchAndCompare();
        }
    }

    private static String answerOf(LongSupplier call) {
        try {
            return Long.toString(call.getAsLong());
        } catch (RuntimeException e) {
            return e.getClass().getSimpleName();
        }
    }

    private String compare(String call, LongSupplier got, LongSupplier want) {
        calls++;
        String answer = answerOf(got);
        String wanted = answerOf(want);
        due.isTrue(run + calls + ": " + call + " answered " + answer + ", due is " + wanted + ";",
                answer.equals(wanted));
        return answer;
    }

    private void begin(int colour, int fill, int spacing, int direction) {
        compare("begin(" + colour + ", " + fill + ", " + spacing + ", " + direction + ")", () -> {
            desk.begin(colour, fill, spacing, direction);
            return 0;
        }, () -> {
            plain.begin(colour, fill, spacing, direction);
            return 0;
        });
    }

    private void corner(int ring, int x, int y) {
        compare("corner(" + ring + ", " + x + ", " + y + ")",
                () -> desk.corner(ring, x, y), () -> plain.corner(ring, x, y));
    }

    private void rail(int side, int x, int y) {
        compare("rail(" + side + ", " + x + ", " + y + ")",
                () -> desk.rail(side, x, y), () -> plain.rail(side, x, y));
    }

    private int upTo(int most) {
        return random.nextInt(most + 1);
    }

    private static int clip(double number) {
        return (int) Math.max(0, Math.min(600, Math.round(number)));
    }

    private void tellShape() {
        int fill = random.nextInt(3);
        begin(upTo(random.nextBoolean() ? 7 : 2), fill, 4 + upTo(16), upTo(3));
        if (fill == 1) {
            tellRails();
        } else {
            switch (random.nextInt(7)) {
                case 0 -> tellGridRings();
                case 1 -> tellBoxes();
                case 2 -> tellComb();
                case 3 -> tellStairs();
                default -> tellStars();
            }
        }
        compare("end()", desk::end, plain::end);
        for (int w = -1; w <= 3; w++) {
            int asked = w;
            compare("fault(" + w + ")", () -> desk.fault(asked), () -> plain.fault(asked));
        }
        int latest = desk.count(0) - 1;
        for (int what = 4; what < 10; what++) {
            int asked = what;
            compare("shape(" + latest + ", " + what + ")",
                    () -> desk.shape(latest, asked), () -> plain.shape(latest, asked));
        }
    }

    private void tellRails() {
        int corners = 1 + upTo(random.nextInt(8) == 0 ? 15 : 4);
        int reach = random.nextBoolean() ? 60 : 600;
        int baseX = upTo(600 - reach);
        int baseY = upTo(600 - reach);
        for (int i = 0; i < corners; i++) {
            rail(0, baseX + upTo(reach), baseY + upTo(reach));
            if (i > 0 || random.nextInt(10) > 0) {
                rail(1, baseX + upTo(reach), baseY + upTo(reach));
            }
        }
        if (desk.count(3) == 1 && random.nextInt(3) > 0) {
            rail(1, baseX + upTo(reach), baseY + upTo(reach));
            rail(0, baseX + upTo(reach), baseY + upTo(reach));
        }
    }

    /** Few places, so that corners fall together, edges touch and rings lie flat. */
    private void tellGridRings() {
        int scale = 1 + upTo(12);
        int rings = 1 + upTo(1);
        for (int r = 0; r < rings; r++) {
            int corners = 2 + upTo(4);
            for (int i = 0; i < corners; i++) {
                corner(r, scale * upTo(4), scale * upTo(4));
            }
        }
    }

    private void tellBox(int ring, int left, int top, int right, int bottom) {
        int[] xs = {left, right, right, left};
        int[] ys = {top, top, bottom, bottom};
        int start = random.nextInt(4);
        int step = random.nextBoolean() ? 1 : 3;
        for (int i = 0; i < 4; i++) {
            int k = (start + i * step) % 4;
            corner(ring, xs[k], ys[k]);
        }
    }

    private void tellBoxes() {
        int left = upTo(200);
        int top = upTo(200);
        int wide = 30 + upTo(370);
        int high = 30 + upTo(370);
        tellBox(0, left, top, left + wide, top + high);
        for (int r = 1; r < 4; r++) {
            if (random.nextBoolean()) {
                int x = left + upTo(wide);
                int y = top + upTo(high);
                tellBox(r, x, y, Math.min(600, x + 1 + upTo(wide / 3)), Math.min(600, y + 1 + upTo(high / 3)));
            }
        }
    }

    /** Many crossings with one line. */
    private void tellComb() {
        int pitch = 4 + upTo(40);
        int deep = 10 + upTo(560);
        for (int i = 0; i < 11; i++) {
            corner(0, i * pitch, i % 2 == 0 ? upTo(5) : deep - upTo(5));
        }
        for (int i = 10; i >= 0; i--) {
            corner(0, i * pitch + upTo(2), (i % 2 == 0 ? 0 : deep) + 10 + upTo(10));
        }
    }

    /** Upright and level edges, many of length one. */
    private void tellStairs() {
        int columns = 1 + upTo(8);
        int[] xs = new int[2 * columns + 2];
        int[] ys = new int[2 * columns + 2];
        int x = upTo(30);
        int y = upTo(30);
        xs[0] = x;
        ys[0] = y;
        int high = 1;
        for (int k = 0; k < columns; k++) {
            high = 1 + (high + upTo(3)) % 5;
            xs[2 * k + 1] = x;
            ys[2 * k + 1] = y + high;
            x += 1 + upTo(2);
            xs[2 * k + 2] = x;
            ys[2 * k + 2] = y + high;
        }
        xs[2 * columns + 1] = x;
        ys[2 * columns + 1] = y;
        boolean swapped = random.nextBoolean();
        boolean backward = random.nextBoolean();
        for (int i = 0; i < xs.length; i++) {
            int k = backward ? xs.length - 1 - i : i;
            corner(0, swapped ? ys[k] : xs[k], swapped ? xs[k] : ys[k]);
        }
    }

    private void tellStar(int ring, double x, double y, double radius) {
        int corners = 3 + upTo(random.nextInt(4) == 0 ? 21 : 6);
        double[] angles = random.doubles(corners, 0, 2 * Math.PI).sorted().toArray();
        for (double angle : angles) {
            double far = radius * (0.3 + 0.7 * random.nextDouble());
            corner(ring, clip(x + far * Math.cos(angle)), clip(y + far * Math.sin(angle)));
        }
    }

    private void tellStars() {
        double radius = 10 + upTo(random.nextInt(3) == 0 ? 350 : 80);
        double x = upTo(600);
        double y = upTo(600);
        tellStar(0, x, y, radius);
        for (int r = 1; r < 4; r++) {
            if (random.nextInt(3) == 0) {
                double turn = 2 * Math.PI * random.nextDouble();
                double away = radius * 0.3 * random.nextDouble();
                tellStar(r, x + away * Math.cos(turn), y + away * Math.sin(turn), radius * 0.15);
            }
        }
    }

    private void askAnything() {
        switch (random.nextInt(16)) {
            case 0 -> begin(upTo(9) - 1, upTo(4) - 1, upTo(22), upTo(5) - 1);
            case 1 -> corner(upTo(5) - 1, upTo(620) - 10, upTo(620) - 10);
            case 2 -> rail(upTo(3) - 1, upTo(620) - 10, upTo(620) - 10);
            case 3 -> compare("end()", desk::end, plain::end);
            case 4 -> askShape(upTo(11) - 1, upTo(11) - 1);
            case 5 -> askCount(upTo(5) - 1);
            case 6 -> compare("stitch()", desk::stitch, plain::stitch);
            case 7 -> askRecord();
            case 8 -> loadSome();
            case 9 -> compare("decode()", desk::decode, plain::decode);
            case 10 -> reorder();
            case 11 -> askOrder(upTo(12) - 1);
            case 12 -> askThread(upTo(5) - 1);
            case 13 -> askUnder(upTo(620) - 10, upTo(620) - 10);
            case 14 -> askNeedle();
            default -> askHoopAndStop();
        }
    }

    private int reorder() {
        compare("reorder()", desk::reorder, plain::reorder);
        for (int k = 0; k < desk.count(0); k++) {
            askOrder(k);
        }
        return desk.count(0);
    }

    private void askOrder(int k) {
        compare("order(" + k + ")", () -> desk.order(k), () -> plain.order(k));
    }

    private void askShape(int n, int what) {
        compare("shape(" + n + ", " + what + ")", () -> desk.shape(n, what), () -> plain.shape(n, what));
    }

    private void askCount(int what) {
        compare("count(" + what + ")", () -> desk.count(what), () -> plain.count(what));
    }

    private void askThread(int n) {
        compare("thread(" + n + ")", () -> desk.thread(n), () -> plain.thread(n));
    }

    private void askUnder(int x, int y) {
        compare("under(" + x + ", " + y + ")", () -> desk.under(x, y), () -> plain.under(x, y));
    }

    private void askRecord() {
        int i = upTo(desk.count(1) + 1) - 1;
        int f = upTo(4) - 1;
        int b = upTo(3 * desk.count(1) + 1) - 1;
        compare("record(" + i + ", " + f + ")", () -> desk.record(i, f), () -> plain.record(i, f));
        compare("byteAt(" + b + ")", () -> desk.byteAt(b), () -> plain.byteAt(b));
    }

    private void askNeedle() {
        int i = upTo(desk.count(1) + 2) - 1;
        int f = upTo(3) - 1;
        compare("needle(" + i + ", " + f + ")", () -> desk.needle(i, f), () -> plain.needle(i, f));
    }

    private void askHoopAndStop() {
        int w = upTo(700) - 10;
        int h = upTo(700) - 10;
        int i = upTo(desk.count(1) + 2) - 1;
        compare("hoop(" + w + ", " + h + ")", () -> desk.hoop(w, h) ? 1 : 0, () -> plain.hoop(w, h) ? 1 : 0);
        compare("stop(" + i + ")", () -> desk.stop(i), () -> plain.stop(i));
    }

    /** Bytes of the path's own records, or mostly right ones, or any. */
    private void loadSome() {
        int many = random.nextInt(8);
        for (int k = 0; k < many; k++) {
            int i = desk.count(2) - (random.nextInt(6) == 0 ? 1 : 0) + (random.nextInt(12) == 0 ? 1 : 0);
            int b = anyByte(i);
            compare("load(" + i + ", " + b + ")", () -> desk.load(i, b), () -> plain.load(i, b));
        }
    }

    private int anyByte(int i) {
        if (i >= 0 && i < 3 * desk.count(1) && random.nextBoolean()) {
            return desk.byteAt(i);
        }
        if (random.nextInt(20) == 0) {
            return upTo(270) - 8;
        }
        int b = 0;
        for (int digit = 0; digit < 4; digit++) {
            b = b * 4 + (i % 3 == 0 && digit < 2 ? digit * upTo(3) : upTo(2));
        }
        return b;
    }

    /** All records at once; that is more calls than the document promises, but the program counts none. */
    private void stitchAndCompare() {
        compare("stitch()", desk::stitch, plain::stitch);
        for (int i = 0; i < desk.count(1); i++) {
            for (int f = 0; f < 3; f++) {
                int at = i;
                int asked = f;
                compare("record(" + i + ", " + f + ")",
                        () -> desk.record(at, asked), () -> plain.record(at, asked));
            }
        }
        for (int n = 0; n < 9; n++) {
            askThread(n);
        }
        for (int k = 0; k < 30; k++) {
            askUnder(upTo(600), upTo(600));
        }
    }
}
