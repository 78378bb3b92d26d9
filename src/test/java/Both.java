/**
 * The class and its plain second writing, side by side: each call goes to both, and
 * the two answers must be the same.
 */
final class Both {
    private static final int MOST_CALLS = 512;

    final TriangleRaster x;
    private final PlainRaster plain;
    private final Due due;
    private final String name;
    private int calls = 0;

    Both(Due due, String name, int w, int h) {
        this.due = due;
        this.name = name + " (" + w + ", " + h + ")";
        x = new TriangleRaster(w, h);
        plain = new PlainRaster(w, h);
    }

    void clear(int c, int z) {
        same("clear(" + c + ", " + z + ")", x.clear(c, z), plain.clear(c, z));
    }

    void vertex(int k, int vx, int vy, int z) {
        same("vertex(" + k + ", " + vx + ", " + vy + ", " + z + ")", x.vertex(k, vx, vy, z), plain.vertex(k, vx, vy, z));
    }

    void triangle(int c) {
        same("triangle(" + c + ")", x.triangle(c), plain.triangle(c));
    }

    void covers(int column, int row) {
        same("covers(" + column + ", " + row + ")", x.covers(column, row), plain.covers(column, row));
    }

    void line(int x0, int y0, int x1, int y1, int c) {
        String call = "line(" + x0 + ", " + y0 + ", " + x1 + ", " + y1 + ", " + c + ")";
        same(call, x.line(x0, y0, x1, y1, c), plain.line(x0, y0, x1, y1, c));
    }

    void fill(int column, int row, int c) {
        same("fill(" + column + ", " + row + ", " + c + ")", x.fill(column, row, c), plain.fill(column, row, c));
    }

    void pixel(int column, int row) {
        same("pixel(" + column + ", " + row + ")", x.pixel(column, row), plain.pixel(column, row));
    }

    void depthAt(int column, int row) {
        same("depthAt(" + column + ", " + row + ")", x.depthAt(column, row), plain.depthAt(column, row));
    }

    void count(int c) {
        same("count(" + c + ")", x.count(c), plain.count(c));
    }

    void pieces(int c) {
        same("pieces(" + c + ")", x.pieces(c), plain.pieces(c));
    }

    /** Colour and depth of each pixel. */
    void everyPixel() {
        for (int p = 0; p < plain.w * plain.h; p++) {
            pixel(p % plain.w, p / plain.w);
            depthAt(p % plain.w, p / plain.w);
        }
    }

    /** Whether each pixel is covered, and those that lie round the picture. */
    void everyCover() {
        for (int row = -1; row <= plain.h; row++) {
            for (int column = -1; column <= plain.w; column++) {
                covers(column, row);
            }
        }
    }

    /** The answer that is due to a call that only the class gets, because it must change nothing. */
    void refused(String call, long got, long want) {
        calls++;
        due.same(name + ", call " + calls + ": " + call, got, want);
    }

    int calls() {
        return calls;
    }

    private void same(String call, boolean got, boolean want) {
        same(call, got ? 1L : 0L, want ? 1L : 0L);
    }

    private void same(String call, long got, long want) {
        calls++;
        // What an object answers after that is free, so a test that goes on is itself wrong.
        due.same(name + ": calls of one object within 512", calls <= MOST_CALLS, true);
        due.same(name + ", call " + calls + ": " + call, got, want);
    }
}
