/** Pictures and triangles that several tests begin with. */
final class Draw {
    private Draw() {
    }

    /** A picture of these rows: the digits '0' .. '9' are colours. */
    static TriangleRaster picture(String... rows) {
        TriangleRaster x = new TriangleRaster(rows[0].length(), rows.length);
        for (int row = 0; row < rows.length; row++) {
            for (int column = 0; column < rows[row].length(); column++) {
                x.line(column, row, column, row, rows[row].charAt(column) - '0');
            }
        }
        return x;
    }

    /** Sets the three vertices, x and y of each in turn, all with one depth. */
    static void flat(TriangleRaster x, int z, int... places) {
        for (int k = 0; k < 3; k++) {
            x.vertex(k, places[2 * k], places[2 * k + 1], z);
        }
    }
}
