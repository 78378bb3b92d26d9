/** Promise 1: the sides of a new object, and 0 in all. */
final class NewObjectTest {
    private static final Due DUE = new Due();

    public static void main(String[] args) {
        for (int w = 1; w <= 24; w++) {
            for (int h = 1; h <= 24; h++) {
                made(w, h, w, h);
            }
        }
        made(0, 7, 1, 7);
        made(25, 7, 1, 7);
        made(7, 0, 7, 1);
        made(7, 25, 7, 1);
        made(-1, -24, 1, 1);
        made(Integer.MIN_VALUE, 24, 1, 24);
        made(24, Integer.MAX_VALUE, 24, 1);
        made(Integer.MAX_VALUE, Integer.MIN_VALUE, 1, 1);
        verticesAreZero();
        objectsAreApart();
        DUE.end();
    }

    private static void made(int w, int h, int wantW, int wantH) {
        String name = "new TriangleRaster(" + w + ", " + h + ")";
        TriangleRaster x = new TriangleRaster(w, h);
        DUE.size(name, x, wantW, wantH);
        DUE.same(name + ".count(0)", x.count(0), wantW * wantH);
        for (int row = 0; row < wantH; row++) {
            rowIsZero(name, new TriangleRaster(w, h), row, wantW);
        }
    }

    private static void rowIsZero(String name, TriangleRaster x, int row, int wantW) {
        for (int column = 0; column < wantW; column++) {
            DUE.same(name + " colour", x.pixel(column, row), 0);
            DUE.same(name + " depth", x.depthAt(column, row), 0);
        }
    }

    /** Each vertex alone is left as it was made, with the other two set. */
    private static void verticesAreZero() {
        int[][] places = {{0, 0}, {160, 0}, {0, 160}};
        for (int left = 0; left < 3; left++) {
            TriangleRaster x = new TriangleRaster(10, 10);
            x.clear(0, 65535);
            x.vertex((left + 1) % 3, places[1][0], places[1][1], 0);
            x.vertex((left + 2) % 3, places[2][0], places[2][1], 0);
            DUE.same("triangle with vertex " + left + " as made", x.triangle(1), 45);
            DUE.same("its depth", x.depthAt(0, 0), 0);
        }
        TriangleRaster x = new TriangleRaster(10, 10);
        x.clear(0, 65535);
        DUE.same("triangle of a new object", x.triangle(1), 0);
        DUE.same("covers of a new object", x.covers(0, 0), false);
        DUE.same("covers of a new object", x.covers(-1, -1), false);
    }

    private static void objectsAreApart() {
        TriangleRaster one = new TriangleRaster(3, 3);
        TriangleRaster other = new TriangleRaster(3, 3);
        one.clear(5, 9);
        Draw.flat(one, 4, 0, 0, 48, 0, 0, 48);
        DUE.same("another object's colour", other.pixel(1, 1), 0);
        DUE.same("another object's depth", other.depthAt(1, 1), 0);
        DUE.same("another object's triangle", other.covers(0, 0), false);
    }
}
