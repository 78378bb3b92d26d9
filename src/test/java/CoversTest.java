/** Promise 5: covers, also outside of the picture, and its bounds. */
final class CoversTest {
    private static final Due DUE = new Due();

    public static void main(String[] args) {
        sameAsTriangle();
        outsideOfThePicture();
        bounds();
        changesNothing();
        DUE.end();
    }

    private static void sameAsTriangle() {
        TriangleRaster x = new TriangleRaster(6, 6);
        int[][] triangles = {{8, 8, 88, 8, 8, 88}, {88, 8, 88, 88, 8, 88}, {3, 90, 60, 2, 40, 40},
            {8, 8, 8, 8, 40, 40}, {0, 0, 96, 96, 48, 48}, {24, 88, 24, 8, 72, 40}};
        for (int[] places : triangles) {
            Draw.flat(x, 5, places);
            x.clear(0, 65535);
            x.triangle(1);
            for (int p = 0; p < 36; p++) {
                DUE.same("covers", x.covers(p % 6, p / 6), x.pixel(p % 6, p / 6) == 1);
            }
        }
        // Covering has nothing to do with what stands in front.
        x.clear(0, 0);
        DUE.same("triangle(1) behind all", x.triangle(1), 0);
        DUE.same("covers(1, 2) behind all", x.covers(1, 2), true);
    }

    private static void outsideOfThePicture() {
        TriangleRaster x = new TriangleRaster(1, 1);
        Draw.flat(x, 5, -152, -152, -88, -152, -152, -88);
        DUE.same("covers(-10, -10)", x.covers(-10, -10), true);
        DUE.same("covers(-7, -10)", x.covers(-7, -10), true);
        DUE.same("covers(-6, -10)", x.covers(-6, -10), false);
        DUE.same("covers(-10, -7)", x.covers(-10, -7), true);
        DUE.same("covers(-10, -6)", x.covers(-10, -6), false);
        DUE.same("covers(-11, -10)", x.covers(-11, -10), false);
        DUE.same("covers(-10, -11)", x.covers(-10, -11), false);
        DUE.same("covers(-8, -9)", x.covers(-8, -9), true);
        DUE.same("covers(-8, -8)", x.covers(-8, -8), false);
        DUE.same("covers(0, 0)", x.covers(0, 0), false);
    }

    private static void bounds() {
        TriangleRaster x = new TriangleRaster(2, 2);
        Draw.flat(x, 5, -16384, -16384, 16384, -16384, -16384, 16384);
        DUE.same("covers(-1024, -1024)", x.covers(-1024, -1024), true);
        DUE.same("covers(-1025, -1024)", x.covers(-1025, -1024), false);
        DUE.same("covers(1022, -1024)", x.covers(1022, -1024), true);
        DUE.same("covers(1023, -1024)", x.covers(1023, -1024), false);
        Draw.flat(x, 5, 16384, 16384, 16384, -16384, -16384, 16384);
        DUE.same("covers(1023, 1023)", x.covers(1023, 1023), true);
        DUE.same("covers(1024, 1023)", x.covers(1024, 1023), false);
        int[] far = {-2000, 2000, -2001, 2001, Integer.MIN_VALUE, Integer.MAX_VALUE};
        for (int a : far) {
            for (int b : far) {
                DUE.same("covers(" + a + ", " + b + ")", x.covers(a, b), false);
            }
            DUE.same("covers(" + a + ", 900)", x.covers(a, 900), false);
            DUE.same("covers(900, " + a + ")", x.covers(900, a), false);
        }
        // 16 times these is 0 again in an int: they are refused, not folded back.
        Draw.flat(x, 5, -160, -160, 160, -160, -160, 160);
        DUE.same("covers(0, -2)", x.covers(0, -2), true);
        DUE.same("covers(1 << 28, -2)", x.covers(1 << 28, -2), false);
        DUE.same("covers(-(1 << 28), -2)", x.covers(-(1 << 28), -2), false);
        DUE.same("covers(-2, 0)", x.covers(-2, 0), true);
        DUE.same("covers(-2, 1 << 28)", x.covers(-2, 1 << 28), false);
        DUE.same("covers(-2, -(1 << 28))", x.covers(-2, -(1 << 28)), false);
    }

    private static void changesNothing() {
        TriangleRaster x = new TriangleRaster(2, 2);
        x.clear(3, 77);
        Draw.flat(x, 5, 0, 0, 0, 64, 64, 0);
        DUE.same("covers(0, 0)", x.covers(0, 0), true);
        DUE.same("colour", x.count(3), 4);
        DUE.same("depth", x.depthAt(0, 0), 77);
    }
}
