/**
 * Promise 4, the rule: "THE DEPTH there is, down, (w0 * z0 + w1 * z1 + w2 * z2) / area",
 * with vertices 1 and 2 "(with their depths)" taken the other way round where the area is
 * below 0.
 */
final class DepthRuleTest {
    private static final Due DUE = new Due();
    private static final int[][] WAYS = {{0, 1, 2}, {1, 2, 0}, {2, 0, 1}, {0, 2, 1}, {2, 1, 0}, {1, 0, 2}};

    public static void main(String[] args) {
        thirdsGoDown();
        quartersGoDown();
        justBelowAWholeNumber();
        atACorner();
        onAnEdge();
        depthsFollowTheirVertices();
        greatest();
        DUE.end();
    }

    /** At the one middle w0, w1 and w2 are 1, 1 and 1 of 3; z0, z1, z2 and the depth due. */
    private static void thirdsGoDown() {
        int[][] depths = {{0, 0, 0, 0}, {0, 0, 1, 0}, {0, 0, 2, 0}, {0, 0, 3, 1}, {1, 1, 2, 1}, {1, 2, 2, 1},
            {2, 2, 2, 2}, {32768, 32768, 32768, 32768}, {32768, 32768, 32767, 32767},
            {32768, 32767, 32767, 32767}, {32768, 0, 0, 10922}, {32768, 32768, 0, 21845}};
        for (int[] z : depths) {
            at(z[3], new int[] {7, 7, z[0], 9, 8, z[1], 8, 9, z[2]});
        }
    }

    /** At the one middle w0, w1 and w2 are 64, 64 and 128 of 256. */
    private static void quartersGoDown() {
        int[][] depths = {{0, 0, 1, 0}, {1, 1, 1, 1}, {1, 0, 1, 0}, {3, 1, 0, 1}, {3, 2, 1, 1}, {3, 3, 1, 2},
            {32768, 32768, 32767, 32767}, {10, 20, 31, 23}};
        for (int[] z : depths) {
            at(z[3], new int[] {0, 0, z[0], 16, 0, z[1], 8, 16, z[2]});
        }
    }

    /** Of the greatest area, 2 to the 30th, the third corner has 16 parts in 32768 here. */
    private static void justBelowAWholeNumber() {
        int[][] depths = {{1, 1, 0, 0}, {1, 1, 1, 1}, {2, 2, 1, 1}, {1, 1, 2, 1}, {32768, 32768, 32767, 32767},
            {32767, 32767, 32768, 32767}, {32768, 32768, 32768, 32768}, {0, 0, 2047, 0}, {0, 0, 2048, 1}};
        for (int[] z : depths) {
            at(z[3], new int[] {16384, -16384, z[0], -16384, 16384, z[1], 16384, 16384, z[2]});
        }
    }

    /** Where a corner is a middle the depth is that corner's own. */
    private static void atACorner() {
        for (int z : Range.VERTEX_DEPTH.allowed()) {
            at(z, new int[] {8, 8, z, 900, 8, 32768, 8, 900, 0});
            at(z, new int[] {8, 8, z, 9, 8, 0, 8, 9, 32768});
        }
    }

    /** Half way between two corners the third one has no weight. */
    private static void onAnEdge() {
        at(1, new int[] {-8, 8, 0, 24, 8, 3, 8, 900, 32768});
        at(2, new int[] {-8, 8, 1, 24, 8, 3, 8, 900, 32768});
        at(32767, new int[] {8, -8, 32768, 8, 24, 32767, 900, 8, 0});
    }

    /** The depth due at the middle of the one pixel, of three corners with x, y and z, numbered in each way. */
    private static void at(int want, int[] corners) {
        for (int[] way : WAYS) {
            TriangleRaster x = new TriangleRaster(1, 1);
            x.clear(0, 65535);
            for (int k = 0; k < 3; k++) {
                x.vertex(way[k], corners[3 * k], corners[3 * k + 1], corners[3 * k + 2]);
            }
            DUE.same("triangle(1)", x.triangle(1), 1);
            DUE.same("depthAt(0, 0)", x.depthAt(0, 0), want);
        }
    }

    /** The depths of vertices 1 and 2 go with their places when these are taken the other way round. */
    private static void depthsFollowTheirVertices() {
        int[][] corners = {{0, 0, 100}, {64, 0, 900}, {0, 64, 5000}};
        for (int[] way : WAYS) {
            TriangleRaster x = new TriangleRaster(4, 4);
            x.clear(0, 65535);
            for (int k = 0; k < 3; k++) {
                int[] at = corners[k];
                x.vertex(way[k], at[0], at[1], at[2]);
            }
            DUE.same("triangle(1)", x.triangle(1), 6);
            DUE.same("depthAt(0, 0)", x.depthAt(0, 0), 812);
            DUE.same("depthAt(2, 0)", x.depthAt(2, 0), 1212);
            DUE.same("depthAt(0, 2)", x.depthAt(0, 2), 3262);
            DUE.same("depthAt(1, 1)", x.depthAt(1, 1), 2237);
        }
    }

    /** E times a depth goes far beyond an int here. */
    private static void greatest() {
        TriangleRaster x = new TriangleRaster(24, 24);
        x.clear(0, 65535);
        Draw.flat(x, 32768, -16384, -16384, 16384, -16384, -16384, 16384);
        DUE.same("half of all", x.triangle(1), 0);
        Draw.flat(x, 32768, 16384, -16384, 16384, 16384, -16384, 16384);
        DUE.same("the other half", x.triangle(1), 576);
        DUE.same("its depth", x.depthAt(23, 23), 32768);
        x.vertex(1, 16384, 16384, 0);
        DUE.same("nearer", x.triangle(2), 576);
        DUE.same("depthAt(0, 0)", x.depthAt(0, 0), 32752);
        DUE.same("depthAt(23, 23)", x.depthAt(23, 23), 32016);
    }
}
