/** Promise 1: "w and h of 1 .. 24 (of another number 1): all pixels and vertices are 0 in all." */
final class NewObjectTest {
    private static final Due DUE = new Due();

    public static void main(String[] args) {
        everySize();
        sidesOfAnotherNumber();
        verticesAreZero();
        noTriangleYet();
        objectsAreApart();
        DUE.end();
    }

    private static void everySize() {
        for (int w = 1; w <= 24; w++) {
            for (int h = 1; h <= 24; h++) {
                made(w, h, w, h);
            }
        }
    }

    /** Each side is looked at alone: the other one stays as it was asked for. */
    private static void sidesOfAnotherNumber() {
        for (int bad : Range.SIDE.refused()) {
            for (int good : Range.SIDE.allowed()) {
                made(bad, good, 1, good);
                made(good, bad, good, 1);
            }
            made(bad, bad, 1, 1);
        }
        made(Integer.MAX_VALUE, Integer.MIN_VALUE, 1, 1);
        made(0, 25, 1, 1);
        made(-1, -24, 1, 1);
    }

    private static void made(int w, int h, int wantW, int wantH) {
        String name = "new TriangleRaster(" + w + ", " + h + ")";
        TriangleRaster x = new TriangleRaster(w, h);
        DUE.size(name, x, wantW, wantH);
        DUE.same(name + ".count(0)", x.count(0), wantW * wantH);
        for (int row = 0; row < wantH; row++) {
            rowIsZero(name, new TriangleRaster(w, h), row, wantW);
        }
    }

    private static void rowIsZero(String name, TriangleRaster x, int row, int wantW) {
        for (int column = 0; column < wantW; column++) {
            DUE.same(name + " colour", x.pixel(column, row), 0);
            DUE.same(name + " depth", x.depthAt(column, row), 0);
        }
    }

    /** Each vertex alone is left as it was made; the slope of the depths shows where it stands. */
    private static void verticesAreZero() {
        for (int left = 0; left < 3; left++) {
            Both both = new Both(DUE, "vertex " + left + " as made", 10, 10);
            both.clear(0, 65535);
            both.vertex((left + 1) % 3, 160, 3, 32768);
            both.vertex((left + 2) % 3, 5, 160, 20000);
            both.triangle(1);
            both.everyPixel();
            both.everyCover();
        }
        TriangleRaster x = new TriangleRaster(10, 10);
        x.clear(0, 65535);
        x.vertex(1, 160, 0, 1);
        x.vertex(2, 0, 160, 1);
        DUE.same("triangle with vertex 0 as made", x.triangle(1), 45);
        // Of 25600, w0 is 23040: with a z0 of 1 it were 1.
        DUE.same("its depth", x.depthAt(0, 0), 0);
    }

    /** All three vertices are in one place, so that the area is 0. */
    private static void noTriangleYet() {
        TriangleRaster x = new TriangleRaster(10, 10);
        x.clear(0, 65535);
        DUE.same("triangle of a new object", x.triangle(1), 0);
        DUE.same("count(0) after it", x.count(0), 100);
        for (int place = -2; place <= 2; place++) {
            DUE.same("covers of a new object", x.covers(place, place), false);
        }
    }

    private static void objectsAreApart() {
        TriangleRaster one = new TriangleRaster(3, 3);
        TriangleRaster other = new TriangleRaster(3, 3);
        one.clear(5, 9);
        Draw.flat(one, 4, 0, 0, 48, 0, 0, 48);
        DUE.same("another object's colour", other.pixel(1, 1), 0);
        DUE.same("another object's depth", other.depthAt(1, 1), 0);
        DUE.same("another object's triangle", other.covers(0, 0), false);
    }
}
