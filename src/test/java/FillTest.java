/** Promise 7: fill paints the piece that a pixel is in. */
final class FillTest {
    private static final Due DUE = new Due();

    public static void main(String[] args) {
        ordinary();
        cornerToCorner();
        noSuchPixel();
        itsOwnColour();
        onePixelAndAll();
        windings();
        DUE.end();
    }

    private static void ordinary() {
        TriangleRaster x = Draw.picture("11022", "10202", "02222", "11120");
        DUE.same("fill(1, 0, 5)", x.fill(1, 0, 5), 3);
        DUE.picture("side by side", x, "55022", "50202", "02222", "11120");
        DUE.same("fill(3, 2, 6)", x.fill(3, 2, 6), 9);
        DUE.picture("round a hole", x, "55066", "50606", "06666", "11160");
        DUE.same("fill(3, 1, 5)", x.fill(3, 1, 5), 1);
        DUE.same("corners do not hang together", x.pixel(4, 3), 0);
        DUE.same("fill(0, 3, 6)", x.fill(0, 3, 6), 3);
        DUE.picture("joined", x, "55066", "50656", "06666", "66660");
        DUE.same("fill(2, 3, 7)", x.fill(2, 3, 7), 12);
        DUE.picture("joined and filled", x, "55077", "50757", "07777", "77770");
        // A row's end does not hang together with the next row's beginning.
        TriangleRaster ends = Draw.picture("001", "100", "001");
        DUE.same("fill(2, 0, 2)", ends.fill(2, 0, 2), 1);
        DUE.picture("row ends", ends, "002", "100", "001");
    }

    private static void cornerToCorner() {
        TriangleRaster x = Draw.picture("101", "010", "101");
        DUE.same("the middle one", x.fill(1, 1, 5), 1);
        DUE.picture("the middle one", x, "101", "050", "101");
        DUE.same("a corner", x.fill(2, 2, 6), 1);
        DUE.same("a side", x.fill(1, 0, 7), 1);
        DUE.picture("a corner and a side", x, "171", "050", "106");
        DUE.same("the colour across a corner", x.fill(1, 0, 5), 1);
        DUE.same("joined", x.fill(1, 1, 8), 2);
        DUE.picture("joined", x, "181", "080", "106");
    }

    /** "0 when there is no such pixel": beside each side, and where an index would wrap round. */
    private static void noSuchPixel() {
        int[][] sizes = {{3, 2}, {1, 1}, {16, 16}, {24, 1}, {1, 24}, {24, 24}};
        for (int[] size : sizes) {
            TriangleRaster x = new TriangleRaster(size[0], size[1]);
            x.clear(4, 9);
            for (int column : new Range(0, size[0] - 1).refused()) {
                notFilled(x, column, 0);
                notFilled(x, column, size[1] - 1);
                notFilled(x, column, size[1]);
            }
            for (int row : new Range(0, size[1] - 1).refused()) {
                notFilled(x, 0, row);
                notFilled(x, size[0] - 1, row);
                notFilled(x, -1, row);
            }
            DUE.same("count(4)", x.count(4), size[0] * size[1]);
        }
    }

    private static void notFilled(TriangleRaster x, int column, int row) {
        DUE.same("fill(" + column + ", " + row + ", 5)", x.fill(column, row, 5), 0);
        DUE.same("fill(" + column + ", " + row + ", -1)", x.fill(column, row, -1), 0);
    }

    /** "or it has that colour": any int is a colour, -1 too, which pixel answers outside. */
    private static void itsOwnColour() {
        for (int c : new int[] {4, 0, -1, Integer.MIN_VALUE, Integer.MAX_VALUE}) {
            TriangleRaster x = new TriangleRaster(3, 2);
            x.clear(c, 9);
            DUE.same("its own colour", x.fill(1, 1, c), 0);
            DUE.same("count of it", x.count(c), 6);
            DUE.same("one more than its own", x.fill(1, 1, c + 1), 6);
            DUE.same("and back", x.fill(0, 0, c), 6);
            x.line(0, 0, 2, 0, c - 1);
            DUE.same("the colour beside it", x.fill(1, 1, c - 1), 3);
            DUE.same("its own colour now", x.fill(1, 1, c - 1), 0);
            DUE.same("count of that", x.count(c - 1), 6);
            DUE.same("depthAt(2, 1)", x.depthAt(2, 1), 9);
        }
    }

    private static void onePixelAndAll() {
        TriangleRaster least = new TriangleRaster(1, 1);
        DUE.same("the only pixel", least.fill(0, 0, 3), 1);
        DUE.same("the only pixel", least.pixel(0, 0), 3);
        for (int corner = 0; corner < 4; corner++) {
            TriangleRaster x = new TriangleRaster(24, 24);
            int column = corner % 2 * 23;
            int row = corner / 2 * 23;
            DUE.same("all from a corner", x.fill(column, row, 1), 576);
            x.line(column, row, column, row, 2);
            DUE.same("a corner alone", x.fill(column, row, 3), 1);
            DUE.same("all but a corner", x.fill(12, 12, 4), 575);
            DUE.same("the corner stays", x.pixel(column, row), 3);
        }
    }

    private static void windings() {
        TriangleRaster all = new TriangleRaster(24, 24);
        for (int c = 1; c <= 20; c++) {
            DUE.same("all", all.fill(c, 24 - c, c), 576);
        }
        // A way that goes to and fro through every second row.
        TriangleRaster x = new TriangleRaster(24, 24);
        for (int row = 1; row < 24; row += 2) {
            int from = row % 4 == 1 ? 0 : 1;
            x.line(from, row, from + 22, row, 1);
        }
        DUE.same("to and fro", x.fill(0, 0, 2), 576 - 12 * 23);
        DUE.same("count(0)", x.count(0), 0);
        DUE.same("count(1)", x.count(1), 12 * 23);
    }
}
