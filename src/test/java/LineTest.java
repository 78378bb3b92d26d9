/** Promise 6: the pixels of a line, how many of them are in the picture, and what is refused. */
final class LineTest {
    private static final Due DUE = new Due();

    public static void main(String[] args) {
        ordinary();
        halves();
        reversed();
        clipped();
        longest();
        refused();
        DUE.end();
    }

    private static void ordinary() {
        TriangleRaster x = new TriangleRaster(6, 5);
        x.clear(0, 44);
        DUE.same("a point", x.line(2, 3, 2, 3, 1), 1);
        DUE.same("level", x.line(1, 0, 4, 0, 2), 4);
        DUE.same("upright", x.line(5, 4, 5, 1, 3), 4);
        DUE.same("slanted", x.line(0, 4, 3, 1, 4), 4);
        DUE.picture("lines", x, "022220", "000403", "004003", "041003", "400003");
        DUE.same("depthAt(5, 4)", x.depthAt(5, 4), 44);
        DUE.same("over the same pixels", x.line(5, 4, 5, 1, 3), 4);
        DUE.same("any colour", x.line(0, 0, 0, 0, Integer.MIN_VALUE), 1);
        DUE.same("any colour", x.pixel(0, 0), Integer.MIN_VALUE);
    }

    /** Halves go to the place nearer to the beginning, whichever way the line goes. */
    private static void halves() {
        halfWay(2, 2, 4, 3, "00000", "00000", "00110", "00001", "00000");
        halfWay(2, 2, 4, 1, "00000", "00001", "00110", "00000", "00000");
        halfWay(2, 2, 0, 3, "00000", "00000", "01100", "10000", "00000");
        halfWay(2, 2, 0, 1, "00000", "10000", "01100", "00000", "00000");
        halfWay(2, 2, 3, 4, "00000", "00000", "00100", "00100", "00010");
        halfWay(2, 2, 1, 4, "00000", "00000", "00100", "00100", "01000");
        halfWay(2, 2, 3, 0, "00010", "00100", "00100", "00000", "00000");
        halfWay(2, 2, 1, 0, "01000", "00100", "00100", "00000", "00000");
        // k * 3 / 4: 0.75 is nearest to 1, 1.5 goes to 1, 2.25 is nearest to 2.
        halfWay(0, 0, 4, 3, "10000", "01100", "00010", "00001", "00000");
        halfWay(4, 3, 0, 0, "10000", "01000", "00110", "00001", "00000");
    }

    private static void halfWay(int x0, int y0, int x1, int y1, String... rows) {
        TriangleRaster x = new TriangleRaster(5, 5);
        String call = "line(" + x0 + ", " + y0 + ", " + x1 + ", " + y1 + ", 1)";
        DUE.same(call, x.line(x0, y0, x1, y1, 1), x.count(1));
        DUE.picture(call, x, rows);
    }

    private static void reversed() {
        TriangleRaster x = new TriangleRaster(9, 4);
        DUE.same("there", x.line(0, 0, 8, 3, 1), 9);
        DUE.picture("there", x, "110000000", "001110000", "000001100", "000000011");
        DUE.same("back", x.line(8, 3, 0, 0, 2), 9);
        DUE.picture("back", x, "220000000", "002210000", "000022200", "000000022");
    }

    private static void clipped() {
        TriangleRaster x = new TriangleRaster(4, 3);
        DUE.same("across", x.line(-2, -2, 9, 9, 1), 3);
        DUE.picture("across", x, "1000", "0100", "0010");
        DUE.same("one pixel off above", x.line(0, -1, 3, -1, 2), 0);
        DUE.same("one pixel off below", x.line(0, 3, 3, 3, 2), 0);
        DUE.same("one pixel off left", x.line(-1, 0, -1, 2, 2), 0);
        DUE.same("one pixel off right", x.line(4, 0, 4, 2, 2), 0);
        DUE.same("ends before", x.line(-9, 0, -1, 0, 2), 0);
        DUE.same("begins behind", x.line(9, 0, 4, 0, 2), 0);
        DUE.same("a point outside", x.line(7, 1, 7, 1, 2), 0);
        DUE.same("count(2)", x.count(2), 0);
        DUE.same("in at the left", x.line(-3, 2, 1, 2, 3), 2);
        DUE.same("in at the right", x.line(9, 0, 2, 0, 4), 2);
        DUE.picture("clipped", x, "1044", "0100", "3310");
    }

    private static void longest() {
        TriangleRaster x = new TriangleRaster(24, 24);
        DUE.same("corner to corner", x.line(-16384, -16384, 16384, 16384, 1), 24);
        DUE.same("on the corner line", x.pixel(23, 23), 1);
        DUE.same("and back", x.line(16384, 16384, -16384, -16384, 2), 24);
        DUE.same("on the corner line", x.pixel(7, 7), 2);
        DUE.same("down the other one", x.line(-16384, 16384, 16384, -16384, 3), 1);
        DUE.same("on the other one", x.pixel(0, 0), 3);
        // k is 16384 at column 0: 16384 * 32767 / 32768 is 16383.5, so 16383 and row -1 there.
        DUE.same("nearly", x.line(-16384, -16384, 16384, 16383, 4), 23);
        DUE.same("nearly, at (1, 0)", x.pixel(1, 0), 4);
        DUE.same("nearly, at (23, 22)", x.pixel(23, 22), 4);
        DUE.same("level", x.line(16384, 5, -16384, 5, 6), 24);
        DUE.same("upright", x.line(5, -16384, 5, 16384, 7), 24);
    }

    private static void refused() {
        TriangleRaster x = new TriangleRaster(3, 3);
        int[] bad = {-16385, 16385, Integer.MIN_VALUE, Integer.MAX_VALUE};
        for (int b : bad) {
            DUE.same("x0", x.line(b, 0, 0, 0, 1), -1);
            DUE.same("y0", x.line(0, b, 0, 0, 1), -1);
            DUE.same("x1", x.line(0, 0, b, 0, 1), -1);
            DUE.same("y1", x.line(0, 0, 0, b, 1), -1);
            DUE.same("all", x.line(b, b, b, b, 1), -1);
        }
        DUE.same("count(0)", x.count(0), 9);
        DUE.same("the most, off", x.line(16384, 16384, 16384, -16384, 1), 0);
    }
}
