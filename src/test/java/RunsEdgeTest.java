import java.util.ArrayList;
import java.util.List;

/** The edges that 'Terms' names of runs: a test for each sentence. */
public final class RunsEdgeTest {
    private static final int[] NO_RING = {};

    private final Due due = new Due();

    public static void main(String[] args) {
        RunsEdgeTest test = new RunsEdgeTest();
        test.outlineRings();
        test.satinEdges();
        test.satinGreatest();
        test.satinPieces();
        test.satinDown();
        test.satinEnd();
        test.hatchDirections();
        test.hatchRows();
        test.hatchRowsOfSlants();
        test.parts();
        test.partsAreThePlacesInTheShape();
        test.partsOfTwo();
        test.fromFirstToLast();
        test.partsRiseAndFall();
        test.slantsRiseAndFall();
        test.due.finish();
    }

    private void outlineRings() {
        due.of("Terms", "OUTLINE: for each ring that has corners, in order, its corners, and its corner 0 again.");
        StitchDesk desk = new StitchDesk();
        desk.begin(0, 2, 4, 0);
        int[][] rings = {Told.box(0, 0, 60, 60), NO_RING, {10, 10, 20, 10, 10, 20}, {30, 30, 40, 30, 30, 40}};
        for (int r = 3; r >= 0; r--) {
            for (int i = 0; i < rings[r].length; i += 2) {
                desk.corner(r, rings[r][i], rings[r][i + 1]);
            }
        }
        due.is("a shape of three rings", desk.end(), 0);
        due.is("its runs", desk.shape(0, 8), 3);
        due.is("their places", desk.shape(0, 9), 5 + 4 + 4);
        due.isWay("ring by ring", desk, 60, 0, 60, 60, 0, 60, 0, 0, 10, 10, 20, 10, 10, 20, 10, 10,
                30, 30, 40, 30, 30, 40, 30, 30);
    }

    private void satinEdges() {
        due.of("Terms", "For each edge of the rails, from corner i to i + 1, in order");
        StitchDesk desk = new StitchDesk();
        Told.satin(desk, 0, 10, new int[] {0, 0, 20, 0, 20, 30}, new int[] {5, 5, 15, 5, 15, 25});
        due.is("one run", desk.shape(0, 8), 1);
        due.is("its places", desk.shape(0, 9), 12);
        due.isWay("two edges, the last is none", desk, 5, 5, 10, 0, 10, 5, 20, 0, 15, 5, 20, 10, 15, 11, 20, 20,
                15, 18, 20, 30, 15, 25);
    }

    private void dueSatinPlaces(int places, int spacing, int[] one, int[] two) {
        StitchDesk desk = new StitchDesk();
        due.is("a satin shape", Told.satin(desk, 0, spacing, one, two), 0);
        due.is("its runs", desk.shape(0, 8), 1);
        due.is("its places", desk.shape(0, 9), places);
    }

    private void satinGreatest() {
        due.of("Terms", "m is the greatest of how far both rails' edges go in x or in y");
        int[][] far = {{100, 100, 150, 109}, {150, 100, 100, 109}, {100, 100, 109, 150}, {109, 150, 100, 100}};
        int[][] near = {{200, 200, 207, 203}, {207, 203, 200, 200}, {200, 200, 200, 200}};
        for (int[] one : far) {
            for (int[] two : near) {
                dueSatinPlaces(2 * 5 + 2, 10, one, two);
                dueSatinPlaces(2 * 5 + 2, 10, two, one);
            }
            dueSatinPlaces(2 * 6 + 2, 10, one, new int[] {0, 0, 51, 51});
        }
    }

    private void satinPieces() {
        due.of("Terms", "divided by the spacing, up (1 at least)");
        int[] point = {300, 300, 300, 300};
        int[][] cases = {{0, 10, 1}, {1, 10, 1}, {9, 10, 1}, {10, 10, 1}, {11, 10, 2}, {20, 10, 2}, {21, 10, 3},
            {4, 4, 1}, {5, 4, 2}, {600, 4, 150}, {20, 20, 1}, {21, 20, 2}, {599, 20, 30}, {600, 20, 30}};
        for (int[] c : cases) {
            dueSatinPlaces(2 * c[2] + 2, c[1], new int[] {0, 0, c[0], 0}, point);
            dueSatinPlaces(2 * c[2] + 2, c[1], point, new int[] {0, c[0], 0, 0});
        }
        dueSatinPlaces(2 + 2 + 6 + 2, 10, new int[] {0, 0, 0, 0, 5, 5, 5, 35}, new int[] {9, 9, 9, 9, 9, 9, 9, 9});
    }

    private void satinDown() {
        due.of("Terms", "rail 0's corner i and k times its edge divided by m, down (in x, in y), "
                + "then rail 1's likewise");
        StitchDesk desk = new StitchDesk();
        Told.satin(desk, 0, 10, new int[] {30, 30, 5, 5}, new int[] {0, 50, 20, 75});
        due.isWay("edges that fall and rise", desk, 30, 30, 0, 50, 21, 21, 6, 58, 13, 13, 13, 66, 5, 5, 20, 75);
        StitchDesk other = new StitchDesk();
        Told.satin(other, 0, 10, new int[] {0, 50, 20, 75}, new int[] {30, 30, 5, 5});
        due.isWay("the rails exchanged", other, 0, 50, 30, 30, 6, 58, 21, 21, 13, 66, 13, 13, 20, 75, 5, 5);
    }

    private void satinEnd() {
        due.of("Terms", "At last both rails' last corners, that of rail 0 first.");
        StitchDesk desk = new StitchDesk();
        Told.satin(desk, 0, 20, new int[] {0, 0, 9, 0}, new int[] {0, 9, 9, 9});
        due.isWay("m is 1", desk, 0, 9, 9, 0, 9, 9);
        StitchDesk point = new StitchDesk();
        Told.satin(point, 0, 20, new int[] {9, 0, 9, 0}, new int[] {9, 9, 9, 9});
        due.isWay("edges of no length", point, 9, 0, 9, 9, 9, 0, 9, 9);
    }

    private StitchDesk hatched(int spacing, int direction, int[]... rings) {
        StitchDesk desk = new StitchDesk();
        due.is("a hatched shape", Told.hatch(desk, 0, spacing, direction, rings), 0);
        return desk;
    }

    private void hatchDirections() {
        due.of("Terms", "let f and p of a place be y and x in direction 0, x and y in 1, x + y and x in 2, "
                + "y - x and x in 3");
        int[] box = Told.box(2, 3, 32, 23);
        due.isWay("direction 0", hatched(10, 0, box), 32, 10, 2, 10, 2, 20, 32, 20);
        due.isWay("direction 1", hatched(10, 1, box), 10, 23, 10, 3, 20, 3, 20, 23, 30, 23, 30, 3);
        due.isWay("direction 2", hatched(10, 2, box), 7, 3, 2, 8, 2, 18, 17, 3, 27, 3, 7, 23, 17, 23, 32, 8,
                32, 18, 27, 23);
        due.isWay("direction 3", hatched(10, 3, box), 23, 3, 32, 12, 32, 22, 13, 3, 3, 3, 23, 23, 13, 23, 2, 12,
                2, 22, 3, 23);
    }

    private void dueRuns(String what, int runs, int spacing, int direction, int[]... rings) {
        StitchDesk desk = hatched(spacing, direction, rings);
        due.is(what + ": runs", desk.shape(0, 8), runs);
        due.is(what + ": places", desk.shape(0, 9), 2 * runs);
    }

    private void hatchRows() {
        due.of("Terms", "For each f that is a multiple of the spacing, rising");
        dueRuns("rows from 0 to 600", 31, 20, 0, Told.box(0, 0, 10, 600));
        dueRuns("columns from 0 to 600", 31, 20, 1, Told.box(0, 0, 600, 10));
        dueRuns("rows of the least spacing", 151, 4, 0, Told.box(0, 0, 10, 600));
        dueRuns("rows at both ends", 2, 20, 0, Told.box(0, 20, 10, 40));
        dueRuns("columns at both ends", 2, 20, 1, Told.box(20, 0, 40, 10));
        dueRuns("no row", 0, 20, 0, Told.box(0, 21, 10, 39));
        dueRuns("no column", 0, 20, 1, Told.box(21, 0, 39, 10));
        dueRuns("row 0 alone", 1, 20, 0, Told.box(0, 0, 10, 19));
        dueRuns("row 600 alone", 1, 20, 0, Told.box(0, 581, 10, 600));
        dueRuns("no slanted row", 0, 20, 2, Told.box(21, 0, 30, 9));
        dueRuns("no row slanted the other way", 0, 20, 3, Told.box(22, 0, 30, 1));
        dueRuns("sums from 0 to 1200", 59, 20, 2, Told.box(0, 0, 600, 600));
        dueRuns("differences from -600 to 600", 59, 20, 3, Told.box(0, 0, 600, 600));
    }

    private void hatchRowsOfSlants() {
        due.of("Terms", "For each f that is a multiple of the spacing, rising");
        dueRuns("the greatest sums", 2, 11, 2, Told.box(590, 590, 600, 600));
        dueRuns("the least sums", 2, 4, 2, new int[] {0, 0, 9, 0, 0, 9});
        StitchDesk least = hatched(13, 3, Told.box(590, 0, 600, 10));
        due.is("the least differences: runs", least.shape(0, 8), 2);
        least.stitch();
        int jumps = 10;
        due.is("f -598: x", least.needle(jumps, 0), 598);
        due.is("f -598: y", least.needle(jumps, 1), 0);
        due.is("to x", least.needle(jumps + 1, 0), 600);
        due.is("f -585: x", least.needle(jumps + 2, 0), 595);
        due.is("to x, falling", least.needle(jumps + 3, 0), 590);
        StitchDesk greatest = hatched(13, 3, Told.box(0, 590, 10, 600));
        due.is("the greatest differences: runs", greatest.shape(0, 8), 2);
        greatest.stitch();
        due.is("f 585: x, falling", greatest.needle(jumps, 0), 10);
        due.is("to x, falling", greatest.needle(jumps + 1, 0), 5);
        due.is("f 598: x", greatest.needle(jumps + 2, 0), 0);
        due.is("to x", greatest.needle(jumps + 3, 0), 2);
    }

    private void parts() {
        due.of("Terms", "A PART is a greatest row of places, p one by one, that are all in the shape");
        int[] box = Told.box(0, 10, 40, 30);
        int[] tall = Told.box(10, 0, 30, 40);
        dueRuns("a hole with one place of the row in it", 4, 10, 0, box, Told.box(10, 15, 12, 25));
        dueRuns("a hole between two places of the row", 3, 10, 0, box, Told.box(10, 15, 11, 25));
        dueRuns("the row along the hole's edge", 3, 10, 0, box, Told.box(10, 20, 20, 25));
        dueRuns("the row at the hole's corner", 3, 10, 0, box, new int[] {10, 20, 15, 25, 5, 25});
        dueRuns("a hole with one place of the column in it", 4, 10, 1, tall, Told.box(15, 10, 25, 12));
        dueRuns("a hole between two places of the column", 3, 10, 1, tall, Told.box(15, 10, 25, 11));
        dueRuns("the row goes on to the edge of the places", 1, 10, 0, new int[] {590, 590, 600, 580, 600, 600});
        // The teeth end at 10 and begin at 11: side by side, though not joined.
        int[] teeth = {0, 0, 21, 0, 21, 30, 11, 30, 11, 10, 10, 10, 10, 30, 0, 30};
        dueRuns("teeth side by side", 2, 20, 0, teeth);
        int[] apart = {0, 0, 22, 0, 22, 30, 12, 30, 12, 10, 10, 10, 10, 30, 0, 30};
        dueRuns("teeth with a place between them", 3, 20, 0, apart);
    }

    /** The runs of hatched shapes with corners on their lines, by asking for every place. */
    private void partsAreThePlacesInTheShape() {
        due.of("Terms", "A PART is a greatest row of places, p one by one, that are all in the shape");
        int[][][] shapes = {
            {{0, 100, 20, 0, 50, 50, 80, 0, 100, 100}}, {{0, 0, 100, 0, 80, 50, 100, 100, 0, 100}},
            {{0, 0, 20, 0, 20, 40, 60, 40, 60, 20, 80, 20, 80, 80, 0, 80}},
            {{0, 80, 80, 80, 80, 20, 60, 20, 60, 40, 20, 40, 20, 0, 0, 0}},
            {{40, 0, 80, 40, 40, 80, 0, 40}, {40, 20, 60, 40, 40, 60, 20, 40}},
            {{0, 0, 100, 0, 100, 100, 0, 100}, {20, 20, 40, 20, 30, 40}, {60, 20, 80, 30, 60, 40},
                {30, 60, 50, 80, 30, 90}},
            {{0, 40, 40, 0, 60, 20, 30, 50, 40, 60, 70, 30, 90, 50, 50, 90}},
            {{50, 0, 90, 40, 70, 60, 40, 30, 30, 40, 60, 70, 40, 90, 0, 50}},
            {{0, 0, 12, 0, 9, 3, 10, 4, 9, 8, 0, 8}}, {{0, 0, 12, 0, 9, 4, 10, 3, 14, 8, 0, 8}},
            {{2, 0, 12, 0, 13, 1, 9, 5, 10, 6, 9, 7, 12, 10, 1, 10, 3, 8, 2, 7, 3, 6, 0, 2}},
            {{103, 0, 125, 9, 0, 1}}, {{50, 0, 120, 1, 20, 9}}, {{0, 103, 9, 125, 1, 0}}, {{0, 50, 1, 120, 9, 20}},
            {{0, 0, 7, 100, 11, 3, 23, 97, 31, 0, 43, 100, 60, 100, 60, 120, 0, 120}}};
        for (int[][] rings : shapes) {
            for (int direction = 0; direction < 4; direction++) {
                for (int spacing : new int[] {4, 5, 7, 11, 20}) {
                    dueAsAsked(hatched(spacing, direction, rings), spacing, direction);
                }
            }
        }
    }

    private void dueAsAsked(StitchDesk desk, int spacing, int direction) {
        List<Integer> want = new ArrayList<>();
        for (int f = -200 * spacing; f <= 200 * spacing; f += spacing) {
            List<Integer> row = partsOfRow(desk, f, direction);
            boolean rising = f / spacing % 2 == 0;
            for (int k = 0; k < row.size(); k++) {
                int p = row.get(rising ? k : row.size() - 1 - k);
                want.add(direction == 1 ? f : p);
                want.add(yOf(f, p, direction));
            }
        }
        String what = "direction " + direction + ", spacing " + spacing;
        due.is(what + ": runs", desk.shape(0, 8), want.size() / 4);
        due.is(what + ": places", desk.shape(0, 9), want.size() / 2);
        desk.stitch();
        int[] places = Told.needlePlaces(desk);
        int found = places.length > 0 && !want.isEmpty() && want.get(0) == 0 && want.get(1) == 0 ? 2 : 0;
        for (int i = 0; i < places.length && found < want.size(); i += 2) {
            if (places[i] == want.get(found) && places[i + 1] == want.get(found + 1)) {
                found += 2;
            }
        }
        due.is(what + ": places that the needle comes to", found, want.size());
    }

    private static int yOf(int f, int p, int direction) {
        return switch (direction) {
            case 0 -> f;
            case 1 -> p;
            case 2 -> f - p;
            default -> f + p;
        };
    }

    /** The first and the last p of each part that counts. */
    private static List<Integer> partsOfRow(StitchDesk desk, int f, int direction) {
        List<Integer> ends = new ArrayList<>();
        int first = -1;
        for (int p = 0; p <= 130; p++) {
            int x = direction == 1 ? f : p;
            int y = yOf(f, p, direction);
            boolean in = x >= 0 && x <= 600 && y >= 0 && y <= 600 && desk.under(x, y) == 0;
            if (in && first < 0) {
                first = p;
            }
            if (!in && first >= 0) {
                if (p - first >= 2) {
                    ends.add(first);
                    ends.add(p - 1);
                }
                first = -1;
            }
        }
        return ends;
    }

    private void fromFirstToLast() {
        due.of("Terms", "It is a run from its first to its last place.");
        for (int wide = 1; wide <= 70; wide += 23) {
            int right = 10 + wide;
            due.isWay("a row of " + wide, hatched(20, 0, new int[] {10, 0, right, 0, right, 9, 10, 9}),
                    10, 0, right, 0);
            due.isWay("a column of " + wide, hatched(20, 1, new int[] {0, 10, 0, right, 9, right, 9, 10}),
                    0, 10, 0, right);
        }
        StitchDesk desk = hatched(20, 0, Told.box(0, 0, 140, 9));
        due.is("two places, whatever is between them", desk.shape(0, 9), 2);
        due.isWay("but steps of 70", desk, 70, 0, 140, 0);
    }

    private void partsOfTwo() {
        due.of("Terms", "it counts if it has two places at least");
        dueRuns("a row of one place", 0, 20, 0, new int[] {5, 20, 9, 30, 1, 30});
        dueRuns("a row of two places", 1, 20, 0, new int[] {5, 20, 6, 20, 5, 30});
        dueRuns("a column of one place", 0, 20, 1, new int[] {20, 5, 30, 9, 30, 1});
        dueRuns("a column of two places", 1, 20, 1, new int[] {20, 5, 20, 6, 30, 5});
        dueRuns("a sum of one place", 0, 20, 2, new int[] {10, 10, 15, 10, 10, 15});
        dueRuns("a sum of two places", 1, 20, 2, new int[] {10, 10, 11, 9, 15, 15});
        dueRuns("a difference of one place", 0, 20, 3, new int[] {10, 30, 15, 30, 15, 34});
        dueRuns("a difference of two places", 1, 20, 3, new int[] {10, 30, 11, 31, 5, 35});
        int[] tooth = {0, 0, 60, 0, 60, 40, 40, 40, 40, 10, 30, 20, 20, 10, 20, 40, 0, 40};
        dueRuns("one place between two parts", 5, 20, 0, tooth);
        int[] wide = {0, 0, 60, 0, 60, 40, 40, 40, 40, 10, 31, 20, 30, 20, 20, 10, 20, 40, 0, 40};
        dueRuns("two places between two parts", 6, 20, 0, wide);
    }

    private void partsRiseAndFall() {
        due.of("Terms", "If f divided by the spacing is even, the parts come with rising p, else with falling p, "
                + "each from its other end.");
        int[] tooth = {0, 0, 60, 0, 60, 40, 40, 40, 40, 10, 30, 20, 20, 10, 20, 40, 0, 40};
        due.isWay("parts of rows 0, 1 and 2", hatched(20, 0, tooth), 60, 0, 60, 20, 40, 20, 20, 20, 0, 20,
                0, 40, 20, 40, 40, 40, 60, 40);
        int[] turned = {0, 0, 0, 60, 40, 60, 40, 40, 10, 40, 20, 30, 10, 20, 40, 20, 40, 0};
        due.isWay("parts of columns 0, 1 and 2", hatched(20, 1, turned), 0, 60, 20, 60, 20, 40, 20, 20, 20, 0,
                40, 0, 40, 20, 40, 40, 40, 60);
        due.isWay("a first row that is odd", hatched(20, 0, Told.box(0, 15, 9, 25)), 9, 20, 0, 20);
        due.isWay("a first row that is even", hatched(20, 0, Told.box(0, 35, 9, 45)), 0, 40, 9, 40);
    }

    private void slantsRiseAndFall() {
        due.of("Terms", "If f divided by the spacing is even, the parts come with rising p, else with falling p, "
                + "each from its other end.");
        due.isWay("f -1 by the spacing", hatched(20, 3, Told.box(25, 0, 35, 12)), 32, 12, 25, 5);
        due.isWay("f -2 by the spacing", hatched(20, 3, Told.box(42, 0, 50, 9)), 42, 2, 49, 9);
        due.isWay("f -3 by the spacing", hatched(20, 3, Told.box(62, 0, 69, 9)), 69, 9, 62, 2);
        due.isWay("f 0", hatched(20, 3, Told.box(30, 30, 35, 35)), 30, 30, 35, 35);
        due.isWay("f 1 by the spacing", hatched(20, 3, Told.box(0, 22, 9, 30)), 9, 29, 2, 22);
        due.isWay("f 3 by the spacing, sums", hatched(20, 2, Told.box(25, 27, 33, 34)), 33, 27, 26, 34);
    }
}
