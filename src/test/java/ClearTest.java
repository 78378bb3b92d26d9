/** Promise 2: clear gives all pixels a colour and a depth, or refuses. */
final class ClearTest {
    private static final Due DUE = new Due();
    private static final int[] COLOURS = {7, 0, -1, Integer.MIN_VALUE, Integer.MAX_VALUE};

    public static void main(String[] args) {
        depthsThatAreSuch();
        depthsThatAreNotSuch();
        smallestAndGreatestPicture();
        drawnOver();
        DUE.end();
    }

    /** "a DEPTH, 0 .. 65535": both ends, with any colour. */
    private static void depthsThatAreSuch() {
        for (int c : COLOURS) {
            for (int z : Range.DEPTH.allowed()) {
                TriangleRaster x = new TriangleRaster(16, 15);
                DUE.same("clear(" + c + ", " + z + ")", x.clear(c, z), true);
                all(x, c, z);
            }
        }
    }

    /** "false when the depth is not such": and all pixels stay. */
    private static void depthsThatAreNotSuch() {
        for (int c : COLOURS) {
            for (int z : Range.DEPTH.refused()) {
                TriangleRaster x = new TriangleRaster(16, 15);
                x.clear(c, 300);
                DUE.same("clear(" + (c + 1) + ", " + z + ")", x.clear(c + 1, z), false);
                all(x, c, 300);
            }
        }
    }

    private static void all(TriangleRaster x, int c, int z) {
        for (int p = 0; p < 16 * 15; p++) {
            DUE.same("colour", x.pixel(p % 16, p / 16), c);
            DUE.same("depth", x.depthAt(p % 16, p / 16), z);
        }
        DUE.same("count(" + c + ")", x.count(c), 16 * 15);
    }

    private static void smallestAndGreatestPicture() {
        for (int side : Range.SIDE.allowed()) {
            TriangleRaster x = new TriangleRaster(side, side);
            DUE.same("clear(5, 65535)", x.clear(5, 65535), true);
            DUE.same("count(5)", x.count(5), side * side);
            DUE.same("first depth", x.depthAt(0, 0), 65535);
            DUE.same("last depth", x.depthAt(side - 1, side - 1), 65535);
        }
    }

    /** What was drawn before is gone, but the vertices stay. */
    private static void drawnOver() {
        TriangleRaster x = new TriangleRaster(16, 15);
        x.clear(1, 100);
        Draw.flat(x, 50, 0, 0, 160, 0, 0, 160);
        DUE.same("triangle(2)", x.triangle(2), 45);
        x.line(0, 12, 15, 12, 3);
        x.clear(4, 60);
        all(x, 4, 60);
        DUE.same("triangle(5) after clear", x.triangle(5), 45);
    }
}
