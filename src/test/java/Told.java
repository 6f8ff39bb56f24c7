/** Tells whole shapes to a desk. */
final class Told {
    static final int HATCH = 0;
    static final int SATIN = 1;
    static final int OUTLINE = 2;

    private Told() {
    }

    /** Rows of x, y, x, y .. for the rings 0, 1 .. of the open shape. */
    static void rings(StitchDesk desk, int[]... rings) {
        for (int r = 0; r < rings.length; r++) {
            for (int i = 0; i < rings[r].length; i += 2) {
                desk.corner(r, rings[r][i], rings[r][i + 1]);
            }
        }
    }

    static void rails(StitchDesk desk, int[]... rails) {
        for (int r = 0; r < rails.length; r++) {
            for (int i = 0; i < rails[r].length; i += 2) {
                desk.rail(r, rails[r][i], rails[r][i + 1]);
            }
        }
    }

    static int hatch(StitchDesk desk, int colour, int spacing, int direction, int[]... rings) {
        desk.begin(colour, HATCH, spacing, direction);
        rings(desk, rings);
        return desk.end();
    }

    static int outline(StitchDesk desk, int colour, int[]... rings) {
        desk.begin(colour, OUTLINE, 4, 0);
        rings(desk, rings);
        return desk.end();
    }

    static int satin(StitchDesk desk, int colour, int spacing, int[]... rails) {
        desk.begin(colour, SATIN, spacing, 0);
        rails(desk, rails);
        return desk.end();
    }

    static int[] box(int left, int top, int right, int bottom) {
        return new int[] {left, top, right, top, right, bottom, left, bottom};
    }

    /** A square with six corners on each side, from its left upper corner on; its side is a multiple of six. */
    static int[] squareOf24(int left, int top, int side) {
        int[] ring = new int[48];
        int[] stepX = {1, 0, -1, 0};
        int[] stepY = {0, 1, 0, -1};
        int x = left;
        int y = top;
        for (int i = 0; i < 24; i++) {
            ring[2 * i] = x;
            ring[2 * i + 1] = y;
            x += stepX[i / 6] * side / 6;
            y += stepY[i / 6] * side / 6;
        }
        return ring;
    }

    /** The records of the path, dx, dy and kind one behind the other. */
    static int[] records(StitchDesk desk) {
        int[] row = new int[3 * desk.count(1)];
        for (int i = 0; i < row.length; i++) {
            row[i] = desk.record(i / 3, i % 3);
        }
        return row;
    }

    /** Where the needle is behind each record, x and y one behind the other. */
    static int[] needlePlaces(StitchDesk desk) {
        int[] row = new int[2 * desk.count(1)];
        for (int i = 0; i < row.length; i++) {
            row[i] = desk.needle(i / 2 + 1, i % 2);
        }
        return row;
    }

    /** The next three bytes that are loaded. */
    static void loadGroup(StitchDesk desk, int bits) {
        for (int shift = 16; shift >= 0; shift -= 8) {
            desk.load(desk.count(2), (bits >> shift) & 255);
        }
    }

    /** The bits of a number, by the digits as the document tells them. */
    static int digits(int number) {
        int rest = number;
        int bits = 0;
        for (int k = 0; k < 5; k++) {
            int digit = Math.floorMod(rest, 3);
            bits |= digit << (2 * k);
            rest = (rest - (digit == 2 ? -1 : digit)) / 3;
        }
        return bits;
    }

    /** A path of these records, dx, dy and kind one behind the other, by load and decode. */
    static StitchDesk tape(int... records) {
        StitchDesk desk = new StitchDesk();
        for (int i = 0; i < records.length; i += 3) {
            loadGroup(desk, records[i + 2] << 20 | digits(records[i + 1]) << 10 | digits(records[i]));
        }
        desk.decode();
        return desk;
    }
}
