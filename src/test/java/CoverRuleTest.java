/**
 * Promises 4 and 5, the rule: "The triangle, when its area is not 0, COVERS a pixel when,
 * for each of its edges (0 to 1, 1 to 2, 2 to 0), E at the pixel's middle is above 0, or 0
 * and the edge is top or left", and "When it is below 0 vertices 1 and 2 (with their
 * depths) are taken the other way round".
 */
final class CoverRuleTest {
    private static final Due DUE = new Due();

    /** Each corner as each vertex; the first three go one way round, the others the other way. */
    private static final int[][] WAYS = {{0, 1, 2}, {1, 2, 0}, {2, 0, 1}, {0, 2, 1}, {2, 1, 0}, {1, 0, 2}};

    public static void main(String[] args) {
        middlesOnTopAndLeftEdges();
        straightEdgesBesideAMiddle();
        slantedEdgesBesideAMiddle();
        areaOfNought();
        leastArea();
        greatestArea();
        sharedEdgesPaintOnce();
        DUE.end();
    }

    /** "E .. is .. 0 and the edge is top or left": middles on each kind of edge. */
    private static void middlesOnTopAndLeftEdges() {
        drawn("top and left edges", new int[] {8, 8, 72, 8, 8, 72}, "11110", "11100", "11000", "10000", "00000");
        drawn("right and bottom edges", new int[] {72, 8, 72, 72, 8, 72}, "00000", "00010", "00110", "01110", "00000");
        drawn("top and right edges", new int[] {8, 8, 72, 8, 72, 72}, "11110", "01110", "00110", "00010", "00000");
        drawn("left and bottom edges", new int[] {8, 8, 72, 72, 8, 72}, "00000", "10000", "11000", "11100", "00000");
    }

    private static void drawn(String name, int[] corners, String... rows) {
        for (int[] way : WAYS) {
            TriangleRaster x = placed(way, corners);
            x.clear(0, 65535);
            DUE.same(name, x.triangle(1), x.count(1));
            DUE.picture(name, x, rows);
        }
    }

    /** An edge on the middle of pixel (0, 0), and a sixteenth to each side of it. */
    private static void straightEdgesBesideAMiddle() {
        for (int at = 7; at <= 9; at++) {
            covered("left edge at " + at, at <= 8, at, -50, at, 60, 80, 5);
            covered("right edge at " + at, at > 8, at, -50, at, 60, -80, 5);
            covered("top edge at " + at, at <= 8, -50, at, 60, at, 5, 80);
            covered("bottom edge at " + at, at > 8, -50, at, 60, at, 5, -80);
        }
    }

    /** From (3, 5) on E is 1, 0 or -1 at (8, 8); the third corner lies below, then above. */
    private static void slantedEdgesBesideAMiddle() {
        covered("below, E is 1", true, 3, 5, 15, 12, -20, 60);
        covered("below, E is 0, a right edge", false, 3, 5, 13, 11, -20, 60);
        covered("below, E is -1", false, 3, 5, 11, 10, -20, 60);
        covered("above, E is -1", false, 3, 5, 15, 12, 60, -20);
        covered("above, E is 0, a left edge", true, 3, 5, 13, 11, 60, -20);
        covered("above, E is 1", true, 3, 5, 11, 10, 60, -20);
    }

    private static void covered(String name, boolean want, int... corners) {
        for (int[] way : WAYS) {
            TriangleRaster x = placed(way, corners);
            x.clear(0, 65535);
            DUE.same(name + ": covers(0, 0)", x.covers(0, 0), want);
            DUE.same(name + ": triangle(1)", x.triangle(1) > 0 && x.pixel(0, 0) == 1, want);
        }
    }

    /** "when its area is not 0": a point, and lines through middles in every direction. */
    private static void areaOfNought() {
        int[][] flats = {{8, 8, 8, 8, 8, 8}, {8, 8, 72, 8, 40, 8}, {8, 8, 72, 72, 40, 40}, {8, 72, 8, 8, 8, 40},
            {72, 8, 8, 72, 40, 40}, {8, 8, 72, 72, 8, 8}, {8, 8, 72, 72, 72, 72},
            {-16384, -16384, 16384, 16384, 8, 8}};
        for (int[] corners : flats) {
            for (int[] way : WAYS) {
                TriangleRaster x = placed(way, corners);
                x.clear(0, 65535);
                DUE.same("triangle of area 0", x.triangle(1), 0);
                DUE.same("count(0)", x.count(0), 25);
                for (int p = 0; p < 25; p++) {
                    DUE.same("covers with area 0", x.covers(p % 5, p / 5), false);
                    DUE.same("depth with area 0", x.depthAt(p % 5, p / 5), 65535);
                }
            }
        }
    }

    /** Areas of 1 and -1: as small as can be, and its top left corner is a middle. */
    private static void leastArea() {
        for (int[] way : WAYS) {
            TriangleRaster x = placed(way, 40, 24, 41, 24, 40, 25);
            x.clear(0, 65535);
            DUE.same("triangle of the least area", x.triangle(1), 1);
            DUE.picture("the least area", x, "00000", "00100", "00000", "00000", "00000");
            DUE.same("its depth", x.depthAt(2, 1), 77);
        }
    }

    /** Areas of 2 to the 30th and its opposite: the two halves of all places. */
    private static void greatestArea() {
        for (int[] way : WAYS) {
            TriangleRaster upper = placed(way, -16384, -16384, 16384, -16384, -16384, 16384);
            TriangleRaster lower = placed(way, 16384, 16384, -16384, 16384, 16384, -16384);
            for (int column = -1024; column < 1024; column += 23) {
                int row = -1 - column;
                DUE.same("upper half", upper.covers(column, row), false);
                DUE.same("lower half", lower.covers(column, row), true);
                DUE.same("upper half, a row up", upper.covers(column, row - 1), row > -1024);
                DUE.same("lower half, a row up", lower.covers(column, row - 1), false);
            }
        }
    }

    /** A fan round a pixel's middle paints each pixel of its outline's inside once. */
    private static void sharedEdgesPaintOnce() {
        int[][] ring = {{8, 8}, {88, 8}, {136, 56}, {136, 136}, {56, 136}, {8, 104}};
        int[] times = new int[100];
        for (int i = 0; i < ring.length; i++) {
            TriangleRaster x = new TriangleRaster(10, 10);
            int[] a = ring[i];
            int[] b = ring[(i + 1) % ring.length];
            Draw.flat(x, 5, 72, 72, a[0], a[1], b[0], b[1]);
            x.clear(0, 65535);
            x.triangle(1);
            for (int p = 0; p < 100; p++) {
                times[p] += x.pixel(p % 10, p / 10);
            }
        }
        for (int p = 0; p < 100; p++) {
            DUE.same("pixel " + p + " painted at most once", times[p] <= 1, true);
        }
        DUE.same("the middle of the fan", times[4 * 10 + 4], 1);
        DUE.same("inside", times[6 * 10 + 6], 1);
    }

    /** A picture of 5 by 5 whose triangle has these corners, numbered in this way. */
    private static TriangleRaster placed(int[] way, int... corners) {
        TriangleRaster x = new TriangleRaster(5, 5);
        for (int k = 0; k < 3; k++) {
            DUE.same("vertex", x.vertex(way[k], corners[2 * k], corners[2 * k + 1], 77), true);
        }
        return x;
    }
}
