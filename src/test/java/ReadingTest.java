/** Promises 8, 9 and 10: pixel, depthAt and count. */
final class ReadingTest {
    private static final Due DUE = new Due();

    public static void main(String[] args) {
        eachPixelItsOwn();
        noneSuch();
        counting();
        DUE.end();
    }

    /** Every pixel of an uneven picture gets a colour and a depth that no other one has. */
    private static void eachPixelItsOwn() {
        TriangleRaster x = new TriangleRaster(7, 4);
        x.clear(0, 65535);
        for (int p = 0; p < 28; p++) {
            int left = p % 7 * 16;
            int top = p / 7 * 16;
            Draw.flat(x, 1000 + p, left, top, left + 16, top, left, top + 17);
            DUE.same("triangle of one pixel", x.triangle(500 - p), 1);
        }
        for (int p = 0; p < 28; p++) {
            DUE.same("pixel " + p, x.pixel(p % 7, p / 7), 500 - p);
            DUE.same("depthAt " + p, x.depthAt(p % 7, p / 7), 1000 + p);
            DUE.same("count " + p, x.count(500 - p), 1);
        }
        DUE.same("count(0)", x.count(0), 0);
    }

    private static void noneSuch() {
        TriangleRaster x = new TriangleRaster(7, 4);
        x.clear(6, 5);
        int[][] off = {{-1, 0}, {-1, 1}, {0, -1}, {6, -1}, {7, 0}, {7, 3}, {0, 4}, {6, 4},
            {Integer.MIN_VALUE, 0}, {Integer.MAX_VALUE, 0}, {0, Integer.MIN_VALUE},
            {0, Integer.MAX_VALUE}, {Integer.MIN_VALUE, Integer.MAX_VALUE}, {1 << 30, 1 << 30}};
        for (int[] at : off) {
            DUE.same("pixel(" + at[0] + ", " + at[1] + ")", x.pixel(at[0], at[1]), -1);
            DUE.same("depthAt(" + at[0] + ", " + at[1] + ")", x.depthAt(at[0], at[1]), -1);
        }
        DUE.same("pixel(6, 3)", x.pixel(6, 3), 6);
        DUE.same("depthAt(6, 3)", x.depthAt(6, 3), 5);
    }

    private static void counting() {
        TriangleRaster x = Draw.picture("1203", "1113", "0023");
        DUE.same("count(0)", x.count(0), 3);
        DUE.same("count(1)", x.count(1), 4);
        DUE.same("count(2)", x.count(2), 2);
        DUE.same("count(3)", x.count(3), 3);
        DUE.same("count(4)", x.count(4), 0);
        DUE.same("count(-1)", x.count(-1), 0);
        x.clear(Integer.MIN_VALUE, 0);
        DUE.same("count of the least int", x.count(Integer.MIN_VALUE), 12);
        DUE.same("count of the greatest int", x.count(Integer.MAX_VALUE), 0);
    }
}
