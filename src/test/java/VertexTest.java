/** Promise 3: vertex sets one vertex, or refuses and leaves it as it was. */
final class VertexTest {
    private static final Due DUE = new Due();

    public static void main(String[] args) {
        verticesThatAreNotSuch();
        placesThatAreSuch();
        placesThatAreNotSuch();
        depthsThatAreSuch();
        depthsThatAreNotSuch();
        setsOneAlone();
        staysAfterTriangle();
        DUE.end();
    }

    /** "VERTICES 0, 1, 2": no other one. */
    private static void verticesThatAreNotSuch() {
        for (int bad : Range.VERTEX.refused()) {
            refused(bad, 32, 32, 5);
        }
    }

    /** "x and y in sixteenths of a pixel, -16384 .. 16384": both ends are kept to the sixteenth. */
    private static void placesThatAreSuch() {
        for (int k = 0; k < 3; k++) {
            for (int place : Range.COORDINATE.allowed()) {
                int across = place < 0 ? 16384 : -16384;
                peakAt(k, place, 0, across, -16384, across, 16384);
                peakAt(k, 0, place, -16384, across, 16384, across);
                DUE.same("in both", new TriangleRaster(1, 1).vertex(k, place, place, 0), true);
                DUE.same("in both", new TriangleRaster(1, 1).vertex(k, place, -place, 32768), true);
            }
        }
    }

    /** So wide that a depth in the picture changes by a half when the peak moves by a sixteenth. */
    private static void peakAt(int k, int px, int py, int ax, int ay, int bx, int by) {
        Both both = new Both(DUE, "vertex " + k + " at " + px + ", " + py, 12, 12);
        both.clear(0, 65535);
        both.vertex(k, px, py, 32768);
        both.vertex((k + 1) % 3, ax, ay, 0);
        both.vertex((k + 2) % 3, bx, by, 0);
        both.triangle(1);
        DUE.same("all are covered", both.x.count(1), 144);
        both.everyPixel();
    }

    private static void placesThatAreNotSuch() {
        for (int k = 0; k < 3; k++) {
            for (int bad : Range.COORDINATE.refused()) {
                refused(k, bad, 32, 5);
                refused(k, 32, bad, 5);
                refused(k, bad, bad, 5);
            }
        }
    }

    /** "a depth z of 0 .. 32768": both ends, in one vertex and in all. */
    private static void depthsThatAreSuch() {
        for (int z : Range.VERTEX_DEPTH.allowed()) {
            TriangleRaster x = new TriangleRaster(1, 1);
            x.clear(0, 65535);
            for (int k = 0; k < 3; k++) {
                DUE.same("vertex of depth " + z, x.vertex(k, k == 1 ? 64 : 0, k == 2 ? 64 : 0, z), true);
            }
            DUE.same("triangle(1)", x.triangle(1), 1);
            DUE.same("depth of all", x.depthAt(0, 0), z);
            for (int k = 0; k < 3; k++) {
                onePeak(k, z);
            }
        }
    }

    /** The vertex is at the pixel's middle, so that the depth there is its own. */
    private static void onePeak(int k, int z) {
        TriangleRaster x = new TriangleRaster(1, 1);
        x.clear(0, 65535);
        x.vertex(k, 8, 8, z);
        x.vertex((k + 1) % 3, 64, 8, 100);
        x.vertex((k + 2) % 3, 8, 64, 200);
        DUE.same("triangle(1)", x.triangle(1), 1);
        DUE.same("depth of vertex " + k, x.depthAt(0, 0), z);
    }

    private static void depthsThatAreNotSuch() {
        for (int k = 0; k < 3; k++) {
            for (int bad : Range.VERTEX_DEPTH.refused()) {
                refused(k, 32, 32, bad);
            }
            // Such a depth a pixel may have, but no vertex.
            refused(k, 32, 32, 65535);
        }
    }

    /** "false when these are not such": and the triangle and its depths are the ones of before. */
    private static void refused(int k, int vx, int vy, int z) {
        TriangleRaster x = new TriangleRaster(4, 4);
        Draw.flat(x, 9, 0, 0, 64, 0, 0, 64);
        String call = "vertex(" + k + ", " + vx + ", " + vy + ", " + z + ")";
        DUE.same(call, x.vertex(k, vx, vy, z), false);
        x.clear(0, 65535);
        DUE.same("triangle(1) after " + call, x.triangle(1), 6);
        DUE.same("count(1) after " + call, x.count(1), 6);
        DUE.picture("after " + call, x, "1110", "1100", "1000", "0000");
        for (int i = 0; i < 3; i++) {
            DUE.same("depth after " + call, x.depthAt(i, 0), 9);
            DUE.same("depth after " + call, x.depthAt(0, i), 9);
        }
    }

    private static void setsOneAlone() {
        TriangleRaster x = new TriangleRaster(4, 4);
        Draw.flat(x, 9, 0, 0, 64, 0, 0, 64);
        x.vertex(2, 64, 64, 9);
        x.clear(0, 65535);
        x.triangle(1);
        DUE.picture("vertex 2 moved", x, "1111", "0111", "0011", "0001");
        x.vertex(0, 0, 64, 9);
        x.clear(0, 65535);
        x.triangle(1);
        DUE.picture("vertex 0 moved", x, "0001", "0011", "0111", "1111");
        x.vertex(1, 0, 0, 9);
        x.clear(0, 65535);
        x.triangle(1);
        DUE.picture("vertex 1 moved", x, "0000", "1000", "1100", "1110");
    }

    /** Vertices 1 and 2 are taken the other way round for a drawing, but are not changed by it. */
    private static void staysAfterTriangle() {
        TriangleRaster x = new TriangleRaster(4, 4);
        Draw.flat(x, 9, 0, 0, 0, 64, 64, 0);
        x.clear(0, 65535);
        DUE.same("triangle the other way round", x.triangle(1), 6);
        DUE.same("covers the other way round", x.covers(0, 0), true);
        x.vertex(1, 64, 64, 9);
        x.clear(0, 65535);
        x.triangle(1);
        DUE.picture("vertex 1 moved after", x, "1111", "0111", "0011", "0001");
    }
}
