/** Promise 3: vertex sets one vertex, or refuses and leaves it as it was. */
final class VertexTest {
    private static final Due DUE = new Due();

    public static void main(String[] args) {
        accepts();
        refuses();
        setsOneAlone();
        staysAfterTriangle();
        DUE.end();
    }

    private static void accepts() {
        TriangleRaster x = new TriangleRaster(4, 4);
        for (int k = 0; k < 3; k++) {
            DUE.same("least", x.vertex(k, -16384, -16384, 0), true);
            DUE.same("most", x.vertex(k, 16384, 16384, 32768), true);
            DUE.same("ordinary", x.vertex(k, 5, -7, 300), true);
        }
    }

    private static void refuses() {
        refused(-1, 0, 0, 0);
        refused(3, 0, 0, 0);
        refused(Integer.MIN_VALUE, 0, 0, 0);
        refused(Integer.MAX_VALUE, 0, 0, 0);
        int[] badPlaces = {-16385, 16385, Integer.MIN_VALUE, Integer.MAX_VALUE};
        int[] badDepths = {-1, 32769, 65535, Integer.MIN_VALUE, Integer.MAX_VALUE};
        for (int k = 0; k < 3; k++) {
            for (int bad : badPlaces) {
                refused(k, bad, 0, 0);
                refused(k, 0, bad, 0);
            }
            for (int bad : badDepths) {
                refused(k, 32, 32, bad);
            }
        }
    }

    /** The call is refused, and the triangle and its depths are the ones of before. */
    private static void refused(int k, int vx, int vy, int z) {
        TriangleRaster x = new TriangleRaster(4, 4);
        Draw.flat(x, 9, 0, 0, 64, 0, 0, 64);
        String call = "vertex(" + k + ", " + vx + ", " + vy + ", " + z + ")";
        DUE.same(call, x.vertex(k, vx, vy, z), false);
        x.clear(0, 65535);
        DUE.same("triangle(1) after " + call, x.triangle(1), 6);
        DUE.same("count(1) after " + call, x.count(1), 6);
        DUE.picture("after " + call, x, "1110", "1100", "1000", "0000");
        for (int i = 0; i < 3; i++) {
            DUE.same("depth after " + call, x.depthAt(i, 0), 9);
            DUE.same("depth after " + call, x.depthAt(0, i), 9);
        }
    }

    private static void setsOneAlone() {
        TriangleRaster x = new TriangleRaster(4, 4);
        Draw.flat(x, 9, 0, 0, 64, 0, 0, 64);
        x.vertex(2, 64, 64, 9);
        x.clear(0, 65535);
        x.triangle(1);
        DUE.picture("vertex 2 moved", x, "1111", "0111", "0011", "0001");
        x.vertex(0, 0, 64, 9);
        x.clear(0, 65535);
        x.triangle(1);
        DUE.picture("vertex 0 moved", x, "0001", "0011", "0111", "1111");
        x.vertex(1, 0, 0, 9);
        x.clear(0, 65535);
        x.triangle(1);
        DUE.picture("vertex 1 moved", x, "0000", "1000", "1100", "1110");
    }

    /** Vertices 1 and 2 are taken the other way round for a drawing, but are not changed by it. */
    private static void staysAfterTriangle() {
        TriangleRaster x = new TriangleRaster(4, 4);
        Draw.flat(x, 9, 0, 0, 0, 64, 64, 0);
        x.clear(0, 65535);
        DUE.same("triangle the other way round", x.triangle(1), 6);
        DUE.same("covers the other way round", x.covers(0, 0), true);
        x.vertex(1, 64, 64, 9);
        x.clear(0, 65535);
        x.triangle(1);
        DUE.picture("vertex 1 moved after", x, "1111", "0111", "0011", "0001");
    }
}
