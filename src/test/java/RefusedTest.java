import java.util.function.ToLongFunction;

/**
 * "A call that is refused changes nothing.": after each call that can be refused, each
 * colour, each depth and each vertex is the one of before.
 */
final class RefusedTest {
    private static final Due DUE = new Due();
    private static final int W = 5;
    private static final int H = 4;

    public static void main(String[] args) {
        clear();
        vertex();
        line();
        fillOutside();
        fillWithItsOwnColour();
        readings();
        manyInOneRun();
        DUE.end();
    }

    private static void clear() {
        for (int z : Range.DEPTH.refused()) {
            refused("clear(9, " + z + ")", x -> x.clear(9, z) ? 1 : 0, 0);
        }
    }

    /** One number is not such, and the others would each move the vertex. */
    private static void vertex() {
        for (int bad : Range.VERTEX.refused()) {
            refusedVertex(bad, 41, 29, 555);
        }
        for (int k = 0; k < 3; k++) {
            for (int bad : Range.COORDINATE.refused()) {
                refusedVertex(k, bad, 29, 555);
                refusedVertex(k, 41, bad, 555);
                refusedVertex(k, bad, bad, 555);
            }
            for (int bad : Range.VERTEX_DEPTH.refused()) {
                refusedVertex(k, 41, 29, bad);
            }
        }
    }

    private static void refusedVertex(int k, int vx, int vy, int z) {
        String call = "vertex(" + k + ", " + vx + ", " + vy + ", " + z + ")";
        refused(call, x -> x.vertex(k, vx, vy, z) ? 1 : 0, 0);
    }

    /** One coordinate is not such, and the others are in the picture. */
    private static void line() {
        for (int bad : Range.COORDINATE.refused()) {
            refusedLine(bad, 1, 3, 2);
            refusedLine(1, bad, 3, 2);
            refusedLine(1, 1, bad, 2);
            refusedLine(1, 1, 3, bad);
            refusedLine(bad, bad, bad, bad);
        }
    }

    private static void refusedLine(int x0, int y0, int x1, int y1) {
        String call = "line(" + x0 + ", " + y0 + ", " + x1 + ", " + y1 + ", 9)";
        refused(call, x -> x.line(x0, y0, x1, y1, 9), -1);
    }

    private static void fillOutside() {
        for (int column : new Range(0, W - 1).refused()) {
            refused("fill(" + column + ", 2, 9)", x -> x.fill(column, 2, 9), 0);
        }
        for (int row : new Range(0, H - 1).refused()) {
            refused("fill(2, " + row + ", 9)", x -> x.fill(2, row, 9), 0);
        }
        refused("fill(5, 4, 9)", x -> x.fill(W, H, 9), 0);
    }

    private static void fillWithItsOwnColour() {
        for (int p = 0; p < W * H; p++) {
            int column = p % W;
            int row = p / W;
            refused("fill with its own colour", x -> x.fill(column, row, x.pixel(column, row)), 0);
        }
    }

    /** These only read, and that also where there is nothing to read. */
    private static void readings() {
        for (int bad : Range.COVERED_PLACE.refused()) {
            refused("covers(" + bad + ", 1)", x -> x.covers(bad, 1) ? 1 : 0, 0);
            refused("covers(1, " + bad + ")", x -> x.covers(1, bad) ? 1 : 0, 0);
            refused("pixel(" + bad + ", 1)", x -> x.pixel(bad, 1), -1);
            refused("depthAt(1, " + bad + ")", x -> x.depthAt(1, bad), -1);
        }
        refused("count(9)", x -> x.count(9), 0);
        refused("pieces(9)", x -> x.pieces(9), 0);
    }

    private static void refused(String call, ToLongFunction<TriangleRaster> made, long want) {
        Both both = scene(call);
        both.refused(call, made.applyAsLong(both.x), want);
        unchanged(both);
    }

    private static void manyInOneRun() {
        Both both = scene("many refused calls");
        for (int bad : Range.COORDINATE.refused()) {
            both.refused("clear", both.x.clear(9, -1) ? 1 : 0, 0);
            both.refused("vertex", both.x.vertex(bad, 41, 29, 555) ? 1 : 0, 0);
            both.refused("line", both.x.line(0, 0, bad, 3, 9), -1);
            both.refused("fill", both.x.fill(bad, 0, 9), 0);
        }
        unchanged(both);
    }

    /** Colours, depths and vertices that differ; the vertices are taken the other way round. */
    private static Both scene(String name) {
        Both both = new Both(DUE, name, W, H);
        both.clear(3, 40000);
        both.vertex(0, 3, 5, 20000);
        both.vertex(1, 20, 60, 100);
        both.vertex(2, 75, 10, 32000);
        both.triangle(4);
        both.line(0, 3, 4, 1, -1);
        return both;
    }

    /** The picture is read as it is; the vertices show in what is drawn, also with one of them moved. */
    private static void unchanged(Both both) {
        both.everyPixel();
        both.everyCover();
        redraw(both);
        both.vertex(0, 80, 64, 7);
        redraw(both);
        both.vertex(1, 0, 64, 9);
        redraw(both);
        DUE.size("its size", both.x, W, H);
    }

    private static void redraw(Both both) {
        both.clear(0, 65535);
        both.triangle(1);
        both.everyPixel();
    }
}
