import java.util.Arrays;

/** A picture of pixels with colours and depths, drawn on by triangles, lines and fills. */
public final class TriangleRaster {
    public static final int NONE = -1;

    private static final int MOST_SIDE = 24;
    private static final int MOST_DEPTH = 65535;
    private static final int MOST_VERTEX_DEPTH = 32768;
    private static final int MOST_COORDINATE = 16384;
    private static final int MOST_COVERED_PLACE = 2000;
    private static final int VERTICES = 3;
    private static final int PIXEL_SIZE = 16;
    private static final int HALF_PIXEL = 8;

    private final int width;
    private final int height;
    private final int[] colours;
    private final int[] depths;
    private final Facet facet;

    // Scratch rows of fill and pieces, made once so that no call makes an array.
    private final boolean[] reached;
    private final int[] queue;
    private int queued;

    public TriangleRaster(int w, int h) {
        width = sideOf(w);
        height = sideOf(h);
        int pixels = width * height;
        colours = new int[pixels];
        depths = new int[pixels];
        facet = new Facet();
        reached = new boolean[pixels];
        queue = new int[pixels];
        queued = 0;
    }

    public boolean clear(int c, int z) {
        if (!isWithin(z, 0, MOST_DEPTH)) {
            return false;
        }
        Arrays.fill(colours, c);
        Arrays.fill(depths, z);
        return true;
    }

    public boolean vertex(int k, int x, int y, int z) {
        if (!isWithin(k, 0, VERTICES - 1) || !isCoordinate(x) || !isCoordinate(y)
                || !isWithin(z, 0, MOST_VERTEX_DEPTH)) {
            return false;
        }
        facet.place(k, x, y, z);
        return true;
    }

    public int triangle(int c) {
        int painted = 0;
        for (int y = 0; y < height; y++) {
            for (int x = 0; x < width; x++) {
                painted += paintNearer(x, y, c);
            }
        }
        return painted;
    }

    public boolean covers(int column, int row) {
        return isWithin(column, -MOST_COVERED_PLACE, MOST_COVERED_PLACE)
                && isWithin(row, -MOST_COVERED_PLACE, MOST_COVERED_PLACE)
                && facet.depthOver(column, row) != NONE;
    }

    public int line(int x0, int y0, int x1, int y1, int c) {
        if (!isCoordinate(x0) || !isCoordinate(y0) || !isCoordinate(x1) || !isCoordinate(y1)) {
            return NONE;
        }
        // A line has one pixel for each place along its greater way, so the
        // picture's own columns or rows find them all, however long it is.
        int painted = 0;
        if (Math.abs(x1 - x0) >= Math.abs(y1 - y0)) {
            for (int x = 0; x < width; x++) {
                painted += paint(x, placeBeside(x, x0, x1, y0, y1), c);
            }
        } else {
            for (int y = 0; y < height; y++) {
                painted += paint(placeBeside(y, y0, y1, x0, x1), y, c);
            }
        }
        return painted;
    }

    public int fill(int x, int y, int c) {
        int start = indexOf(x, y);
        if (start == NONE || colours[start] == c) {
            return 0;
        }
        forgetReached();
        int size = reachPiece(x, y);
        for (int i = 0; i < size; i++) {
            colours[queue[i]] = c;
        }
        return size;
    }

    public int pixel(int x, int y) {
        int index = indexOf(x, y);
        return index == NONE ? NONE : colours[index];
    }

    public int depthAt(int x, int y) {
        int index = indexOf(x, y);
        return index == NONE ? NONE : depths[index];
    }

    public int count(int c) {
        int found = 0;
        for (int i = 0; i < colours.length; i++) {
            if (colours[i] == c) {
                found++;
            }
        }
        return found;
    }

    public int pieces(int c) {
        forgetReached();
        int found = 0;
        for (int i = 0; i < colours.length; i++) {
            if (colours[i] == c && !reached[i]) {
                reachPiece(i % width, i / width);
                found++;
            }
        }
        return found;
    }

    private static int sideOf(int side) {
        return isWithin(side, 1, MOST_SIDE) ? side : 1;
    }

    private static boolean isWithin(int number, int least, int most) {
        return number >= least && number <= most;
    }

    private static boolean isCoordinate(int number) {
        return isWithin(number, -MOST_COORDINATE, MOST_COORDINATE);
    }

    /** Where a pixel stands in the rows, or NONE when the picture has none such. */
    private int indexOf(int x, int y) {
        boolean inside = isWithin(x, 0, width - 1) && isWithin(y, 0, height - 1);
        return inside ? y * width + x : NONE;
    }

    /** Paints a pixel if there is one; answers how many were painted, 0 or 1. */
    private int paint(int x, int y, int c) {
        int index = indexOf(x, y);
        if (index == NONE) {
            return 0;
        }
        colours[index] = c;
        return 1;
    }

    /** Paints a pixel where the triangle is in front of it; answers how many, 0 or 1. */
    private int paintNearer(int x, int y, int c) {
        int index = indexOf(x, y);
        int depth = facet.depthOver(x, y);
        if (index == NONE || depth == NONE || depths[index] <= depth) {
            return 0;
        }
        colours[index] = c;
        depths[index] = depth;
        return 1;
    }

    /**
     * Where a line stands along its lesser way (from b0 to b1) when it is at the
     * place a along its greater one (from a0 to a1). Off the line it is NONE,
     * which is outside of every picture.
     */
    private static int placeBeside(int a, int a0, int a1, int b0, int b1) {
        long n = Math.abs(a1 - a0);
        long k = a1 < a0 ? a0 - a : a - a0;
        if (k < 0 || k > n) {
            return NONE;
        }
        if (n == 0) {
            return b0;
        }
        long m = Math.abs(b1 - b0);
        // n - 1 and not n: of two whole numbers as near, the lesser one.
        int far = (int) ((2 * k * m + n - 1) / (2 * n));
        return b1 < b0 ? b0 - far : b0 + far;
    }

    private void forgetReached() {
        for (int i = 0; i < reached.length; i++) {
            reached[i] = false;
        }
    }

    /** Brings the pixels of the piece that holds (x, y) into the queue; answers how many. */
    private int reachPiece(int x, int y) {
        int colour = pixel(x, y);
        queued = 0;
        reach(x, y, colour);
        // No pixel is queued twice, so the queue's length ends this too.
        for (int i = 0; i < queue.length && i < queued; i++) {
            int column = queue[i] % width;
            int row = queue[i] / width;
            reach(column - 1, row, colour);
            reach(column + 1, row, colour);
            reach(column, row - 1, colour);
            reach(column, row + 1, colour);
        }
        return queued;
    }

    private void reach(int x, int y, int colour) {
        int index = indexOf(x, y);
        if (index == NONE || reached[index] || colours[index] != colour || queued >= queue.length) {
            return;
        }
        reached[index] = true;
        queue[queued] = index;
        queued++;
    }

    /** The three vertices as they were set, and the way round in which they are taken. */
    private static final class Facet {
        private final int[] xs = new int[VERTICES];
        private final int[] ys = new int[VERTICES];
        private final int[] zs = new int[VERTICES];
        private int second = 1;
        private int third = 2;
        private long area = 0;

        private void place(int k, int x, int y, int z) {
            xs[k] = x;
            ys[k] = y;
            zs[k] = z;
            takeRound();
        }

        /** The vertices keep their numbers: only the order in which they are taken turns. */
        private void takeRound() {
            long turn = edge(0, 1, xs[2], ys[2]);
            second = turn < 0 ? 2 : 1;
            third = turn < 0 ? 1 : 2;
            area = Math.abs(turn);
        }

        /** The depth at a pixel's middle, or NONE when the triangle does not cover the pixel. */
        private int depthOver(int column, int row) {
            if (area == 0) {
                return NONE;
            }
            int px = PIXEL_SIZE * column + HALF_PIXEL;
            int py = PIXEL_SIZE * row + HALF_PIXEL;
            long w0 = edge(second, third, px, py);
            long w1 = edge(third, 0, px, py);
            long w2 = edge(0, second, px, py);
            if (!isInside(w0, second, third) || !isInside(w1, third, 0) || !isInside(w2, 0, second)) {
                return NONE;
            }
            return (int) ((w0 * zs[0] + w1 * zs[second] + w2 * zs[third]) / area);
        }

        /** E of the edge from a to b at a place; long, so that E times a depth does not wrap. */
        private long edge(int a, int b, int px, int py) {
            long alongX = xs[b] - xs[a];
            long alongY = ys[b] - ys[a];
            return alongX * (py - ys[a]) - alongY * (px - xs[a]);
        }

        private boolean isInside(long e, int a, int b) {
            return e > 0 || (e == 0 && isTopOrLeft(a, b));
        }

        private boolean isTopOrLeft(int a, int b) {
            boolean top = ys[a] == ys[b] && xs[b] > xs[a];
            boolean left = ys[b] < ys[a];
            return top || left;
        }
    }
}
