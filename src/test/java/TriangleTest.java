/** Promise 4: which pixels a triangle paints, and with which depths. */
final class TriangleTest {
    private static final Due DUE = new Due();

    public static void main(String[] args) {
        topAndLeftEdges();
        sharedEdgesPaintOnce();
        flatTriangles();
        depthsGoDown();
        depthsFollowTheirVertices();
        nearerAlone();
        partlyOutside();
        greatest();
        DUE.end();
    }

    /** Middles that are on an edge belong to it when it is top or left. */
    private static void topAndLeftEdges() {
        TriangleRaster x = new TriangleRaster(5, 5);
        int[][] ways = {{0, 1, 2}, {1, 2, 0}, {2, 0, 1}, {0, 2, 1}, {2, 1, 0}, {1, 0, 2}};
        int[][] upperLeft = {{8, 8}, {72, 8}, {8, 72}};
        int[][] lowerRight = {{72, 8}, {72, 72}, {8, 72}};
        for (int[] way : ways) {
            paint(x, upperLeft, way);
            DUE.picture("top and left edges", x, "11110", "11100", "11000", "10000", "00000");
            paint(x, lowerRight, way);
            DUE.picture("right and bottom edges", x, "00000", "00010", "00110", "01110", "00000");
        }
        int[][] upperRight = {{8, 8}, {72, 8}, {72, 72}};
        paint(x, upperRight, ways[0]);
        DUE.picture("upper right", x, "11110", "01110", "00110", "00010", "00000");
        int[][] lowerLeft = {{8, 8}, {72, 72}, {8, 72}};
        paint(x, lowerLeft, ways[0]);
        DUE.picture("lower left", x, "00000", "10000", "11000", "11100", "00000");
    }

    private static void paint(TriangleRaster x, int[][] corners, int[] way) {
        x.clear(0, 65535);
        for (int k = 0; k < 3; k++) {
            x.vertex(way[k], corners[k][0], corners[k][1], 3);
        }
        int painted = x.triangle(1);
        DUE.same("triangle(1)", painted, x.count(1));
    }

    /** A fan round a pixel's middle paints each pixel of its outline's inside once. */
    private static void sharedEdgesPaintOnce() {
        int[][] ring = {{8, 8}, {88, 8}, {136, 56}, {136, 136}, {56, 136}, {8, 104}};
        int[] times = new int[100];
        for (int i = 0; i < ring.length; i++) {
            TriangleRaster x = new TriangleRaster(10, 10);
            int[] a = ring[i];
            int[] b = ring[(i + 1) % ring.length];
            Draw.flat(x, 5, 72, 72, a[0], a[1], b[0], b[1]);
            x.clear(0, 65535);
            x.triangle(1);
            for (int p = 0; p < 100; p++) {
                times[p] += x.pixel(p % 10, p / 10);
            }
        }
        for (int p = 0; p < 100; p++) {
            DUE.same("pixel " + p + " painted at most once", times[p] <= 1, true);
        }
        DUE.same("the middle of the fan", times[4 * 10 + 4], 1);
        DUE.same("inside", times[6 * 10 + 6], 1);
    }

    private static void flatTriangles() {
        TriangleRaster x = new TriangleRaster(5, 5);
        x.clear(0, 65535);
        Draw.flat(x, 0, 8, 8, 8, 8, 8, 8);
        DUE.same("a point", x.triangle(1), 0);
        Draw.flat(x, 0, 8, 8, 72, 8, 40, 8);
        DUE.same("a level line", x.triangle(1), 0);
        Draw.flat(x, 0, 8, 8, 72, 72, 40, 40);
        DUE.same("a slanted line", x.triangle(1), 0);
        Draw.flat(x, 0, 8, 72, 8, 8, 8, 40);
        DUE.same("an upright line", x.triangle(1), 0);
        DUE.same("count(0)", x.count(0), 25);
        DUE.same("depthAt(0, 0)", x.depthAt(0, 0), 65535);
    }

    /** At the one middle w0, w1 and w2 are 64, 64 and 128 of 256; z0, z1, z2 and the depth due. */
    private static void depthsGoDown() {
        int[][] depths = {{0, 0, 0, 0}, {0, 0, 1, 0}, {1, 1, 1, 1}, {1, 0, 1, 0}, {3, 1, 0, 1}, {3, 2, 1, 1},
            {3, 3, 1, 2}, {32768, 32768, 32768, 32768}, {32768, 32768, 32767, 32767}, {10, 20, 31, 23}};
        for (int[] z : depths) {
            TriangleRaster x = new TriangleRaster(1, 1);
            x.clear(0, 65535);
            x.vertex(0, 0, 0, z[0]);
            x.vertex(1, 16, 0, z[1]);
            x.vertex(2, 8, 16, z[2]);
            DUE.same("triangle(1)", x.triangle(1), 1);
            DUE.same("down", x.depthAt(0, 0), z[3]);
        }
    }

    /** The depths of vertices 1 and 2 go with their places when these are taken the other way round. */
    private static void depthsFollowTheirVertices() {
        int[][] corners = {{0, 0, 100}, {64, 0, 900}, {0, 64, 5000}};
        int[][] ways = {{0, 1, 2}, {0, 2, 1}, {1, 0, 2}, {1, 2, 0}, {2, 0, 1}, {2, 1, 0}};
        for (int[] way : ways) {
            TriangleRaster x = new TriangleRaster(4, 4);
            x.clear(0, 65535);
            for (int k = 0; k < 3; k++) {
                int[] at = corners[k];
                x.vertex(way[k], at[0], at[1], at[2]);
            }
            DUE.same("triangle(1)", x.triangle(1), 6);
            DUE.same("depthAt(0, 0)", x.depthAt(0, 0), 812);
            DUE.same("depthAt(2, 0)", x.depthAt(2, 0), 1212);
            DUE.same("depthAt(0, 2)", x.depthAt(0, 2), 3262);
            DUE.same("depthAt(1, 1)", x.depthAt(1, 1), 2237);
        }
    }

    private static void nearerAlone() {
        TriangleRaster x = new TriangleRaster(3, 1);
        Draw.flat(x, 100, 0, 0, 480, 0, 0, 480);
        x.clear(0, 100);
        DUE.same("the same depth", x.triangle(1), 0);
        x.clear(0, 99);
        DUE.same("behind", x.triangle(1), 0);
        DUE.same("depth behind", x.depthAt(0, 0), 99);
        x.clear(0, 101);
        DUE.same("in front", x.triangle(1), 3);
        DUE.same("depth in front", x.depthAt(2, 0), 100);
        DUE.same("once more", x.triangle(2), 0);
        DUE.same("colour once more", x.pixel(0, 0), 1);
        Draw.flat(x, 50, 0, 0, 16, 0, 0, 32);
        DUE.same("nearer, of the same colour", x.triangle(1), 1);
        Draw.flat(x, 70, 0, 0, 480, 0, 0, 480);
        DUE.same("between", x.triangle(4), 2);
        DUE.picture("nearer", x, "144");
        x.line(0, 0, 0, 0, 8);
        Draw.flat(x, 60, 0, 0, 480, 0, 0, 480);
        DUE.same("a line keeps the depth", x.triangle(5), 2);
        DUE.picture("nearer than the line", x, "855");
    }

    private static void partlyOutside() {
        TriangleRaster x = new TriangleRaster(4, 3);
        x.clear(0, 65535);
        Draw.flat(x, 7, -160, -160, 40, -160, -160, 40);
        DUE.same("outside, above and left", x.triangle(1), 0);
        Draw.flat(x, 7, -80, 24, 80, 24, 0, 72);
        DUE.same("across", x.triangle(2), 7);
        DUE.picture("across", x, "0000", "2222", "2220");
    }

    /** E times a depth goes far beyond an int here. */
    private static void greatest() {
        TriangleRaster x = new TriangleRaster(24, 24);
        x.clear(0, 65535);
        Draw.flat(x, 32768, -16384, -16384, 16384, -16384, -16384, 16384);
        DUE.same("half of all", x.triangle(1), 0);
        Draw.flat(x, 32768, 16384, -16384, 16384, 16384, -16384, 16384);
        DUE.same("the other half", x.triangle(1), 576);
        DUE.same("its depth", x.depthAt(23, 23), 32768);
        x.vertex(1, 16384, 16384, 0);
        DUE.same("nearer", x.triangle(2), 576);
        DUE.same("depthAt(0, 0)", x.depthAt(0, 0), 32752);
        DUE.same("depthAt(23, 23)", x.depthAt(23, 23), 32016);
    }
}
