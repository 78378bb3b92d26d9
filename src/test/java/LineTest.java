/** Promise 6: the pixels of a line, how many of them are in the picture, and what is refused. */
final class LineTest {
    private static final Due DUE = new Due();

    public static void main(String[] args) {
        ordinary();
        oneAndTheSameWay();
        nowhereToGo();
        halves();
        halvesFurtherOn();
        reversed();
        clipped();
        longest();
        coordinatesThatAreSuch();
        coordinatesThatAreNotSuch();
        DUE.end();
    }

    private static void ordinary() {
        TriangleRaster x = new TriangleRaster(6, 5);
        x.clear(0, 44);
        DUE.same("a point", x.line(2, 3, 2, 3, 1), 1);
        DUE.same("level", x.line(1, 0, 4, 0, 2), 4);
        DUE.same("upright", x.line(5, 4, 5, 1, 3), 4);
        DUE.same("slanted", x.line(0, 4, 3, 1, 4), 4);
        DUE.picture("lines", x, "022220", "000403", "004003", "041003", "400003");
        DUE.same("depthAt(5, 4)", x.depthAt(5, 4), 44);
        DUE.same("over the same pixels", x.line(5, 4, 5, 1, 3), 4);
        DUE.same("any colour", x.line(0, 0, 0, 0, Integer.MIN_VALUE), 1);
        DUE.same("any colour", x.pixel(0, 0), Integer.MIN_VALUE);
    }

    /** "(x first, if both are the same)": along x or along y, these are the same pixels. */
    private static void oneAndTheSameWay() {
        halfWay(0, 0, 4, 4, "10000", "01000", "00100", "00010", "00001");
        halfWay(4, 4, 1, 1, "00000", "01000", "00100", "00010", "00001");
        halfWay(0, 4, 4, 0, "00001", "00010", "00100", "01000", "10000");
        halfWay(3, 0, 0, 3, "00010", "00100", "01000", "10000", "00000");
        halfWay(2, 2, 3, 1, "00000", "00010", "00100", "00000", "00000");
    }

    /** "(0 when n is 0)": a line to where it begins is one pixel, and only if the picture has it. */
    private static void nowhereToGo() {
        TriangleRaster x = new TriangleRaster(5, 4);
        for (int p = 0; p < 20; p++) {
            DUE.same("a point", x.line(p % 5, p / 5, p % 5, p / 5, 100 + p), 1);
            DUE.same("a point's colour", x.pixel(p % 5, p / 5), 100 + p);
            DUE.same("a point alone", x.count(0), 19 - p);
        }
        int[][] off = {{-1, 0}, {0, -1}, {5, 0}, {0, 4}, {5, 3}, {4, 4}, {-1, -1}, {5, 4}, {-16384, -16384},
            {16384, 16384}, {-16384, 2}, {2, 16384}};
        for (int[] at : off) {
            DUE.same("a point outside", x.line(at[0], at[1], at[0], at[1], 7), 0);
        }
        DUE.same("count(7)", x.count(7), 0);
    }

    /**
     * "the whole number nearest to k * m / n, of two the lesser one": a half goes to the place
     * nearer to the beginning, whichever way the line goes.
     */
    private static void halves() {
        halfWay(2, 2, 4, 3, "00000", "00000", "00110", "00001", "00000");
        halfWay(2, 2, 4, 1, "00000", "00001", "00110", "00000", "00000");
        halfWay(2, 2, 0, 3, "00000", "00000", "01100", "10000", "00000");
        halfWay(2, 2, 0, 1, "00000", "10000", "01100", "00000", "00000");
        halfWay(2, 2, 3, 4, "00000", "00000", "00100", "00100", "00010");
        halfWay(2, 2, 1, 4, "00000", "00000", "00100", "00100", "01000");
        halfWay(2, 2, 3, 0, "00010", "00100", "00100", "00000", "00000");
        halfWay(2, 2, 1, 0, "01000", "00100", "00100", "00000", "00000");
        // k * 3 / 4: 0.75 is nearest to 1, 1.5 goes to 1, 2.25 is nearest to 2.
        halfWay(0, 0, 4, 3, "10000", "01100", "00010", "00001", "00000");
        halfWay(4, 3, 0, 0, "10000", "01000", "00110", "00001", "00000");
    }

    /** Of 6 by 3 each second place is a half, of 6 by 1 and by 5 only the third one is. */
    private static void halvesFurtherOn() {
        drawn(new int[] {0, 0, 6, 3}, "1100000", "0011000", "0000110", "0000001");
        drawn(new int[] {6, 3, 0, 0}, "1000000", "0110000", "0001100", "0000011");
        drawn(new int[] {0, 3, 6, 0}, "0000001", "0000110", "0011000", "1100000");
        drawn(new int[] {0, 0, 6, 1}, "1111000", "0000111");
        drawn(new int[] {6, 1, 0, 0}, "1110000", "0001111");
        drawn(new int[] {0, 0, 5, 6}, "100000", "010000", "001000", "001000", "000100", "000010", "000001");
        drawn(new int[] {5, 6, 0, 0}, "100000", "010000", "001000", "000100", "000100", "000010", "000001");
    }

    private static void drawn(int[] at, String... rows) {
        TriangleRaster x = new TriangleRaster(rows[0].length(), rows.length);
        String call = "line(" + at[0] + ", " + at[1] + ", " + at[2] + ", " + at[3] + ", 1)";
        DUE.same(call, x.line(at[0], at[1], at[2], at[3], 1), x.count(1));
        DUE.picture(call, x, rows);
    }

    private static void halfWay(int x0, int y0, int x1, int y1, String... rows) {
        TriangleRaster x = new TriangleRaster(5, 5);
        String call = "line(" + x0 + ", " + y0 + ", " + x1 + ", " + y1 + ", 1)";
        DUE.same(call, x.line(x0, y0, x1, y1, 1), x.count(1));
        DUE.picture(call, x, rows);
    }

    private static void reversed() {
        TriangleRaster x = new TriangleRaster(9, 4);
        DUE.same("there", x.line(0, 0, 8, 3, 1), 9);
        DUE.picture("there", x, "110000000", "001110000", "000001100", "000000011");
        DUE.same("back", x.line(8, 3, 0, 0, 2), 9);
        DUE.picture("back", x, "220000000", "002210000", "000022200", "000000022");
    }

    /** "All pixels of a line that are in the picture": no other ones, and these are the answer. */
    private static void clipped() {
        TriangleRaster x = new TriangleRaster(4, 3);
        DUE.same("across", x.line(-2, -2, 9, 9, 1), 3);
        DUE.picture("across", x, "1000", "0100", "0010");
        DUE.same("one pixel off above", x.line(0, -1, 3, -1, 2), 0);
        DUE.same("one pixel off below", x.line(0, 3, 3, 3, 2), 0);
        DUE.same("one pixel off left", x.line(-1, 0, -1, 2, 2), 0);
        DUE.same("one pixel off right", x.line(4, 0, 4, 2, 2), 0);
        DUE.same("ends before", x.line(-9, 0, -1, 0, 2), 0);
        DUE.same("begins behind", x.line(9, 0, 4, 0, 2), 0);
        DUE.same("a point outside", x.line(7, 1, 7, 1, 2), 0);
        DUE.same("count(2)", x.count(2), 0);
        DUE.same("in at the left", x.line(-3, 2, 1, 2, 3), 2);
        DUE.same("in at the right", x.line(9, 0, 2, 0, 4), 2);
        DUE.picture("clipped", x, "1044", "0100", "3310");
    }

    private static void longest() {
        TriangleRaster x = new TriangleRaster(24, 24);
        DUE.same("corner to corner", x.line(-16384, -16384, 16384, 16384, 1), 24);
        DUE.same("on the corner line", x.pixel(23, 23), 1);
        DUE.same("and back", x.line(16384, 16384, -16384, -16384, 2), 24);
        DUE.same("on the corner line", x.pixel(7, 7), 2);
        DUE.same("down the other one", x.line(-16384, 16384, 16384, -16384, 3), 1);
        DUE.same("on the other one", x.pixel(0, 0), 3);
        // k is 16384 at column 0: 16384 * 32767 / 32768 is 16383.5, so 16383 and row -1 there.
        DUE.same("nearly", x.line(-16384, -16384, 16384, 16383, 4), 23);
        DUE.same("nearly, at (1, 0)", x.pixel(1, 0), 4);
        DUE.same("nearly, at (23, 22)", x.pixel(23, 22), 4);
        DUE.same("level", x.line(16384, 5, -16384, 5, 6), 24);
        DUE.same("upright", x.line(5, -16384, 5, 16384, 7), 24);
    }

    /**
     * "-16384 .. 16384": each coordinate at both ends. The slopes go about a half, where a
     * coordinate that were off by one would show near the picture's own end of the line.
     */
    private static void coordinatesThatAreSuch() {
        for (int end : Range.COORDINATE.allowed()) {
            for (int other = -20; other <= 20; other++) {
                int half = end / 2 + other;
                int most = end * 3 / 4 + other;
                farLine(end, half, 2, 3);
                farLine(2, 3, end, half);
                farLine(half, end, 3, 2);
                farLine(3, 2, half, end);
                farLine(end, most, 2, 3);
                farLine(most, end, 3, 2);
            }
        }
        farLine(16384, 16384, 16384, -16384);
        farLine(-16384, 16384, 16384, 16384);
        farLine(-16384, 3, 16384, 3);
        farLine(4, 16384, 4, -16384);
    }

    private static void farLine(int x0, int y0, int x1, int y1) {
        Both both = new Both(DUE, "far line", 6, 6);
        both.line(x0, y0, x1, y1, 1);
        both.everyPixel();
    }

    /** "NONE when a coordinate is not -16384 .. 16384": each of the four alone, and all. */
    private static void coordinatesThatAreNotSuch() {
        TriangleRaster x = new TriangleRaster(3, 3);
        for (int bad : Range.COORDINATE.refused()) {
            DUE.same("x0", x.line(bad, 0, 0, 0, 1), -1);
            DUE.same("y0", x.line(0, bad, 0, 0, 1), -1);
            DUE.same("x1", x.line(0, 0, bad, 0, 1), -1);
            DUE.same("y1", x.line(0, 0, 0, bad, 1), -1);
            DUE.same("all", x.line(bad, bad, bad, bad, 1), -1);
        }
        DUE.same("count(0)", x.count(0), 9);
        DUE.same("the most, off", x.line(16384, 16384, 16384, -16384, 1), 0);
    }
}
