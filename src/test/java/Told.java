/** Tells whole shapes to a desk. */
final class Told {
    static final int HATCH = 0;
    static final int SATIN = 1;
    static final int OUTLINE = 2;

    private Told() {
    }

    /** Rows of x, y, x, y .. for the rings 0, 1 .. of the open shape. */
    static void rings(StitchDesk desk, int[]... rings) {
        for (int r = 0; r < rings.length; r++) {
            for (int i = 0; i < rings[r].length; i += 2) {
                desk.corner(r, rings[r][i], rings[r][i + 1]);
            }
        }
    }

    static void rails(StitchDesk desk, int[]... rails) {
        for (int r = 0; r < rails.length; r++) {
            for (int i = 0; i < rails[r].length; i += 2) {
                desk.rail(r, rails[r][i], rails[r][i + 1]);
            }
        }
    }

    static int hatch(StitchDesk desk, int colour, int spacing, int direction, int[]... rings) {
        desk.begin(colour, HATCH, spacing, direction);
        rings(desk, rings);
        return desk.end();
    }

    static int outline(StitchDesk desk, int colour, int[]... rings) {
        desk.begin(colour, OUTLINE, 4, 0);
        rings(desk, rings);
        return desk.end();
    }

    static int satin(StitchDesk desk, int colour, int spacing, int[]... rails) {
        desk.begin(colour, SATIN, spacing, 0);
        rails(desk, rails);
        return desk.end();
    }

    static int[] box(int left, int top, int right, int bottom) {
        return new int[] {left, top, right, top, right, bottom, left, bottom};
    }
}
