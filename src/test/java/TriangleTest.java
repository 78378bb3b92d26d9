/** Promise 4: which of the covered pixels a triangle paints. */
final class TriangleTest {
    private static final Due DUE = new Due();

    public static void main(String[] args) {
        depthsRoundTheTriangles();
        depthsThatDiffer();
        nearerAlone();
        coveredAlone();
        partlyOutside();
        DUE.end();
    }

    /** "whose depth is greater than that of the triangle there": one less, the same, one more. */
    private static void depthsRoundTheTriangles() {
        for (int of : Range.VERTEX_DEPTH.allowed()) {
            for (int depth : new int[] {of - 1, of, of + 1, 0, 65535}) {
                if (depth >= 0) {
                    drawnOver(depth, of);
                }
            }
        }
    }

    private static void drawnOver(int depth, int of) {
        TriangleRaster x = new TriangleRaster(2, 1);
        x.clear(3, depth);
        Draw.flat(x, of, 0, 0, 480, 0, 0, 480);
        String call = "triangle(4) of depth " + of + " over " + depth;
        DUE.same(call, x.triangle(4), depth > of ? 2 : 0);
        DUE.same("count(4) after " + call, x.count(4), depth > of ? 2 : 0);
        DUE.same("count(3) after " + call, x.count(3), depth > of ? 0 : 2);
        DUE.same("depthAt(1, 0) after " + call, x.depthAt(1, 0), depth > of ? of : depth);
        DUE.same("again " + call, x.triangle(5), 0);
    }

    /** A slope through a level triangle: in one call some are nearer, one is the same, some are deeper. */
    private static void depthsThatDiffer() {
        TriangleRaster x = new TriangleRaster(5, 1);
        x.clear(0, 65535);
        Draw.flat(x, 20, 0, 0, 480, 0, 0, 480);
        DUE.same("level", x.triangle(1), 5);
        // At the middles the slope has depths of 0, 10, 20, 30 and 40.
        x.vertex(0, 8, 8, 0);
        x.vertex(1, 808, 8, 500);
        x.vertex(2, 8, 808, 0);
        DUE.same("slope", x.triangle(2), 2);
        DUE.picture("slope", x, "22111");
        int[] depths = {0, 10, 20, 20, 20};
        for (int column = 0; column < 5; column++) {
            DUE.same("depthAt(" + column + ", 0)", x.depthAt(column, 0), depths[column]);
        }
        Draw.flat(x, 12, 0, 0, 480, 0, 0, 480);
        DUE.same("level again", x.triangle(3), 3);
        DUE.picture("level again", x, "22333");
    }

    private static void nearerAlone() {
        TriangleRaster x = new TriangleRaster(3, 1);
        Draw.flat(x, 100, 0, 0, 480, 0, 0, 480);
        x.clear(0, 100);
        DUE.same("the same depth", x.triangle(1), 0);
        x.clear(0, 99);
        DUE.same("behind", x.triangle(1), 0);
        DUE.same("depth behind", x.depthAt(0, 0), 99);
        x.clear(0, 101);
        DUE.same("in front", x.triangle(1), 3);
        DUE.same("depth in front", x.depthAt(2, 0), 100);
        DUE.same("once more", x.triangle(2), 0);
        DUE.same("colour once more", x.pixel(0, 0), 1);
        Draw.flat(x, 50, 0, 0, 16, 0, 0, 32);
        DUE.same("nearer, of the same colour", x.triangle(1), 1);
        Draw.flat(x, 70, 0, 0, 480, 0, 0, 480);
        DUE.same("between", x.triangle(4), 2);
        DUE.picture("nearer", x, "144");
        x.line(0, 0, 0, 0, 8);
        Draw.flat(x, 60, 0, 0, 480, 0, 0, 480);
        DUE.same("a line keeps the depth", x.triangle(5), 2);
        DUE.picture("nearer than the line", x, "855");
    }

    /** No pixel, all pixels but one, and all pixels are covered; any colour will do. */
    private static void coveredAlone() {
        for (int c : new int[] {-1, Integer.MIN_VALUE, Integer.MAX_VALUE}) {
            TriangleRaster x = new TriangleRaster(24, 24);
            x.clear(0, 1);
            Draw.flat(x, 0, 384, 0, 800, 0, 384, 800);
            DUE.same("none", x.triangle(c), 0);
            DUE.same("count after none", x.count(c), 0);
            // The slanted edge leaves out the last pixel's middle alone: 376 and 376 are 752.
            Draw.flat(x, 0, 0, 0, 752, 0, 0, 752);
            DUE.same("all but one", x.triangle(c), 575);
            DUE.same("the one", x.pixel(23, 23), 0);
            x.clear(0, 1);
            Draw.flat(x, 0, 0, 0, 753, 0, 0, 753);
            DUE.same("all", x.triangle(c), 576);
            DUE.same("count after all", x.count(c), 576);
        }
    }

    private static void partlyOutside() {
        TriangleRaster x = new TriangleRaster(4, 3);
        x.clear(0, 65535);
        Draw.flat(x, 7, -160, -160, 40, -160, -160, 40);
        DUE.same("outside, above and left", x.triangle(1), 0);
        Draw.flat(x, 7, -80, 24, 80, 24, 0, 72);
        DUE.same("across", x.triangle(2), 7);
        DUE.picture("across", x, "0000", "2222", "2220");
    }
}
