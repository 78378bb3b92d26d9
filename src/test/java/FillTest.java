/** Promise 7: fill paints the piece that a pixel is in. */
final class FillTest {
    private static final Due DUE = new Due();

    public static void main(String[] args) {
        ordinary();
        cornerToCorner();
        nothingToFill();
        windings();
        DUE.end();
    }

    private static void ordinary() {
        TriangleRaster x = Draw.picture("11022", "10202", "02222", "11120");
        DUE.same("fill(1, 0, 5)", x.fill(1, 0, 5), 3);
        DUE.picture("side by side", x, "55022", "50202", "02222", "11120");
        DUE.same("fill(3, 2, 6)", x.fill(3, 2, 6), 9);
        DUE.picture("round a hole", x, "55066", "50606", "06666", "11160");
        DUE.same("fill(3, 1, 5)", x.fill(3, 1, 5), 1);
        DUE.same("corners do not hang together", x.pixel(4, 3), 0);
        DUE.same("fill(0, 3, 6)", x.fill(0, 3, 6), 3);
        DUE.picture("joined", x, "55066", "50656", "06666", "66660");
        DUE.same("fill(2, 3, 7)", x.fill(2, 3, 7), 12);
        DUE.picture("joined and filled", x, "55077", "50757", "07777", "77770");
        // A row's end does not hang together with the next row's beginning.
        TriangleRaster ends = Draw.picture("001", "100", "001");
        DUE.same("fill(2, 0, 2)", ends.fill(2, 0, 2), 1);
        DUE.picture("row ends", ends, "002", "100", "001");
    }

    private static void cornerToCorner() {
        TriangleRaster x = Draw.picture("101", "010", "101");
        DUE.same("the middle one", x.fill(1, 1, 5), 1);
        DUE.picture("the middle one", x, "101", "050", "101");
        DUE.same("a corner", x.fill(2, 2, 6), 1);
        DUE.same("a side", x.fill(1, 0, 7), 1);
        DUE.picture("a corner and a side", x, "171", "050", "106");
        DUE.same("the colour across a corner", x.fill(1, 0, 5), 1);
        DUE.same("joined", x.fill(1, 1, 8), 2);
        DUE.picture("joined", x, "181", "080", "106");
    }

    private static void nothingToFill() {
        TriangleRaster x = new TriangleRaster(3, 2);
        x.clear(4, 9);
        DUE.same("its own colour", x.fill(1, 1, 4), 0);
        int[][] off = {{-1, 0}, {0, -1}, {3, 0}, {0, 2}, {-1, 1}, {Integer.MIN_VALUE, 0},
            {Integer.MAX_VALUE, 1}, {1, Integer.MIN_VALUE}, {2, Integer.MAX_VALUE}};
        for (int[] at : off) {
            DUE.same("fill(" + at[0] + ", " + at[1] + ", 5)", x.fill(at[0], at[1], 5), 0);
        }
        DUE.same("count(4)", x.count(4), 6);
        DUE.same("fill(0, 0, -1)", x.fill(0, 0, -1), 6);
        DUE.same("count(-1)", x.count(-1), 6);
        DUE.same("fill of colour -1", x.fill(2, 1, 8), 6);
        DUE.same("depthAt(2, 1)", x.depthAt(2, 1), 9);
    }

    private static void windings() {
        TriangleRaster all = new TriangleRaster(24, 24);
        for (int c = 1; c <= 20; c++) {
            DUE.same("all", all.fill(c, 24 - c, c), 576);
        }
        // A way that goes to and fro through every second row.
        TriangleRaster x = new TriangleRaster(24, 24);
        for (int row = 1; row < 24; row += 2) {
            int from = row % 4 == 1 ? 0 : 1;
            x.line(from, row, from + 22, row, 1);
        }
        DUE.same("to and fro", x.fill(0, 0, 2), 576 - 12 * 23);
        DUE.same("count(0)", x.count(0), 0);
        DUE.same("count(1)", x.count(1), 12 * 23);
    }
}
