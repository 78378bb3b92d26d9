/** Promise 2: clear gives all pixels a colour and a depth, or refuses. */
final class ClearTest {
    private static final Due DUE = new Due();

    public static void main(String[] args) {
        int[] colours = {7, 0, -1, Integer.MIN_VALUE, Integer.MAX_VALUE};
        int[] good = {0, 1, 32768, 65534, 65535};
        int[] bad = {-1, 65536, Integer.MIN_VALUE, Integer.MAX_VALUE};
        for (int c : colours) {
            for (int z : good) {
                TriangleRaster x = new TriangleRaster(16, 15);
                DUE.same("clear(" + c + ", " + z + ")", x.clear(c, z), true);
                all(x, c, z);
            }
            for (int z : bad) {
                TriangleRaster x = new TriangleRaster(16, 15);
                x.clear(c, 300);
                DUE.same("clear(" + (c + 1) + ", " + z + ")", x.clear(c + 1, z), false);
                all(x, c, 300);
            }
        }
        drawnOver();
        DUE.end();
    }

    private static void all(TriangleRaster x, int c, int z) {
        for (int p = 0; p < 16 * 15; p++) {
            DUE.same("colour", x.pixel(p % 16, p / 16), c);
            DUE.same("depth", x.depthAt(p % 16, p / 16), z);
        }
        DUE.same("count(" + c + ")", x.count(c), 16 * 15);
    }

    /** What was drawn before is gone, but the vertices stay. */
    private static void drawnOver() {
        TriangleRaster x = new TriangleRaster(16, 15);
        x.clear(1, 100);
        Draw.flat(x, 50, 0, 0, 160, 0, 0, 160);
        DUE.same("triangle(2)", x.triangle(2), 45);
        x.line(0, 12, 15, 12, 3);
        x.clear(4, 60);
        all(x, 4, 60);
        DUE.same("triangle(5) after clear", x.triangle(5), 45);
    }
}
