/** Promises 8, 9 and 10: pixel, depthAt and count. */
final class ReadingTest {
    private static final Due DUE = new Due();

    public static void main(String[] args) {
        eachPixelItsOwn();
        noneSuch();
        endsOfWhatIsThere();
        counting();
        countOfNoneAndAll();
        DUE.end();
    }

    /** Every pixel of an uneven picture gets a colour and a depth that no other one has. */
    private static void eachPixelItsOwn() {
        TriangleRaster x = new TriangleRaster(7, 4);
        x.clear(0, 65535);
        for (int p = 0; p < 28; p++) {
            int left = p % 7 * 16;
            int top = p / 7 * 16;
            Draw.flat(x, 1000 + p, left, top, left + 16, top, left, top + 17);
            DUE.same("triangle of one pixel", x.triangle(500 - p), 1);
        }
        for (int p = 0; p < 28; p++) {
            DUE.same("pixel " + p, x.pixel(p % 7, p / 7), 500 - p);
            DUE.same("depthAt " + p, x.depthAt(p % 7, p / 7), 1000 + p);
            DUE.same("count " + p, x.count(500 - p), 1);
        }
        DUE.same("count(0)", x.count(0), 0);
    }

    /** "-1 when there is none such" and "NONE when there is none such", round pictures of many sizes. */
    private static void noneSuch() {
        int[][] sizes = {{7, 4}, {1, 1}, {16, 16}, {24, 1}, {1, 24}, {24, 24}};
        for (int[] size : sizes) {
            int right = size[0] - 1;
            int bottom = size[1] - 1;
            for (int column : new Range(0, right).refused()) {
                TriangleRaster x = new TriangleRaster(size[0], size[1]);
                x.clear(6, 5);
                noneAt(x, column, 0);
                noneAt(x, column, bottom);
                noneAt(x, column, column);
                cornersAreThere(x, right, bottom);
            }
            for (int row : new Range(0, bottom).refused()) {
                TriangleRaster x = new TriangleRaster(size[0], size[1]);
                x.clear(6, 5);
                noneAt(x, 0, row);
                noneAt(x, right, row);
                noneAt(x, -1, row);
                noneAt(x, right + 1, row);
                cornersAreThere(x, right, bottom);
            }
        }
    }

    private static void noneAt(TriangleRaster x, int column, int row) {
        DUE.same("pixel(" + column + ", " + row + ")", x.pixel(column, row), -1);
        DUE.same("depthAt(" + column + ", " + row + ")", x.depthAt(column, row), TriangleRaster.NONE);
    }

    private static void cornersAreThere(TriangleRaster x, int right, int bottom) {
        for (int corner = 0; corner < 4; corner++) {
            int column = corner % 2 * right;
            int row = corner / 2 * bottom;
            DUE.same("pixel(" + column + ", " + row + ")", x.pixel(column, row), 6);
            DUE.same("depthAt(" + column + ", " + row + ")", x.depthAt(column, row), 5);
        }
    }

    /** The ends of what a pixel may have, -1 as a colour among them, are read as they are. */
    private static void endsOfWhatIsThere() {
        for (int c : new int[] {0, -1, 1, Integer.MIN_VALUE, Integer.MAX_VALUE}) {
            for (int z : Range.DEPTH.allowed()) {
                TriangleRaster x = new TriangleRaster(2, 2);
                x.clear(c, z);
                DUE.same("pixel(1, 0)", x.pixel(1, 0), c);
                DUE.same("depthAt(1, 0)", x.depthAt(1, 0), z);
            }
        }
    }

    private static void counting() {
        TriangleRaster x = Draw.picture("1203", "1113", "0023");
        DUE.same("count(0)", x.count(0), 3);
        DUE.same("count(1)", x.count(1), 4);
        DUE.same("count(2)", x.count(2), 2);
        DUE.same("count(3)", x.count(3), 3);
        DUE.same("count(4)", x.count(4), 0);
        DUE.same("count(-1)", x.count(-1), 0);
    }

    /** A colour that no pixel has, one that all pixels have, and one that all have but one. */
    private static void countOfNoneAndAll() {
        for (int[] size : new int[][] {{1, 1}, {24, 1}, {1, 24}, {5, 3}, {24, 24}}) {
            for (int c : new int[] {0, -1, 1, Integer.MIN_VALUE, Integer.MAX_VALUE}) {
                int all = size[0] * size[1];
                TriangleRaster x = new TriangleRaster(size[0], size[1]);
                DUE.same("count(0) of a new object", x.count(0), all);
                x.clear(c, 0);
                DUE.same("count of all", x.count(c), all);
                for (int none : new int[] {c + 1, c - 1, ~c, c ^ 1 << 31, c ^ 1 << 16}) {
                    DUE.same("count of none", x.count(none), 0);
                }
                x.line(size[0] - 1, size[1] - 1, size[0] - 1, size[1] - 1, c + 1);
                DUE.same("count of all but one", x.count(c), all - 1);
                DUE.same("count of the one", x.count(c + 1), 1);
                x.line(size[0] - 1, size[1] - 1, size[0] - 1, size[1] - 1, c);
                DUE.same("count of all again", x.count(c), all);
                DUE.same("count of none again", x.count(c + 1), 0);
            }
        }
    }
}
