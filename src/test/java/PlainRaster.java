import java.math.BigInteger;

/**
 * The document's words once more, written as plainly as can be and in other ways
 * than the class does it: whole numbers without a bound, steps along a line one by
 * one, pieces by sweeps over the picture.
 */
final class PlainRaster {
    final int w;
    final int h;
    private final int[][] colour;
    private final int[][] depth;
    private final int[][] vertices = new int[3][3];

    PlainRaster(int w, int h) {
        this.w = w >= 1 && w <= 24 ? w : 1;
        this.h = h >= 1 && h <= 24 ? h : 1;
        colour = new int[this.h][this.w];
        depth = new int[this.h][this.w];
    }

    boolean clear(int c, int z) {
        if (z < 0 || z > 65535) {
            return false;
        }
        for (int p = 0; p < w * h; p++) {
            colour[p / w][p % w] = c;
            depth[p / w][p % w] = z;
        }
        return true;
    }

    boolean vertex(int k, int x, int y, int z) {
        if (k < 0 || k > 2 || off(x) || off(y) || z < 0 || z > 32768) {
            return false;
        }
        vertices[k] = new int[] {x, y, z};
        return true;
    }

    int triangle(int c) {
        int painted = 0;
        for (int p = 0; p < w * h; p++) {
            int x = p % w;
            int y = p / w;
            int z = depthOf(x, y);
            if (z >= 0 && depth[y][x] > z) {
                colour[y][x] = c;
                depth[y][x] = z;
                painted++;
            }
        }
        return painted;
    }

    boolean covers(int column, int row) {
        return column >= -2000 && column <= 2000 && row >= -2000 && row <= 2000 && depthOf(column, row) >= 0;
    }

    int line(int x0, int y0, int x1, int y1, int c) {
        if (off(x0) || off(y0) || off(x1) || off(y1)) {
            return -1;
        }
        int n = Math.max(Math.abs(x1 - x0), Math.abs(y1 - y0));
        int m = Math.min(Math.abs(x1 - x0), Math.abs(y1 - y0));
        boolean alongX = Math.abs(x1 - x0) == n;
        int painted = 0;
        for (int k = 0; k <= n; k++) {
            int other = n == 0 ? 0 : nearest((long) k * m, n);
            int x = x0 + Integer.signum(x1 - x0) * (alongX ? k : other);
            int y = y0 + Integer.signum(y1 - y0) * (alongX ? other : k);
            if (has(x, y)) {
                colour[y][x] = c;
                painted++;
            }
        }
        return painted;
    }

    int fill(int x, int y, int c) {
        if (!has(x, y) || colour[y][x] == c) {
            return 0;
        }
        int[][] names = pieceNames(colour[y][x]);
        int name = names[y][x];
        int painted = 0;
        for (int p = 0; p < w * h; p++) {
            if (names[p / w][p % w] == name) {
                colour[p / w][p % w] = c;
                painted++;
            }
        }
        return painted;
    }

    int pixel(int x, int y) {
        return has(x, y) ? colour[y][x] : -1;
    }

    int depthAt(int x, int y) {
        return has(x, y) ? depth[y][x] : -1;
    }

    int count(int c) {
        int found = 0;
        for (int p = 0; p < w * h; p++) {
            found += colour[p / w][p % w] == c ? 1 : 0;
        }
        return found;
    }

    int pieces(int c) {
        int[][] names = pieceNames(c);
        int found = 0;
        for (int p = 0; p < w * h; p++) {
            found += names[p / w][p % w] == p + 1 ? 1 : 0;
        }
        return found;
    }

    private static boolean off(int coordinate) {
        return coordinate < -16384 || coordinate > 16384;
    }

    private boolean has(int x, int y) {
        return x >= 0 && x < w && y >= 0 && y < h;
    }

    /** The whole number nearest to a / n; the lesser one of two. */
    private static int nearest(long a, long n) {
        long down = a / n;
        long above = a - down * n;
        return (int) (2 * above > n ? down + 1 : down);
    }

    /** Each pixel of a colour gets the least number of its piece, the others 0. */
    private int[][] pieceNames(int c) {
        int[][] names = new int[h][w];
        for (int p = 0; p < w * h; p++) {
            names[p / w][p % w] = colour[p / w][p % w] == c ? p + 1 : 0;
        }
        boolean changed = true;
        while (changed) {
            changed = false;
            for (int p = 0; p < w * h; p++) {
                changed |= take(names, p % w, p / w, p % w + 1, p / w);
                changed |= take(names, p % w, p / w, p % w, p / w + 1);
            }
        }
        return names;
    }

    private boolean take(int[][] names, int x, int y, int nextX, int nextY) {
        if (!has(nextX, nextY) || names[y][x] == 0 || names[nextY][nextX] == 0
                || names[y][x] == names[nextY][nextX]) {
            return false;
        }
        int least = Math.min(names[y][x], names[nextY][nextX]);
        names[y][x] = least;
        names[nextY][nextX] = least;
        return true;
    }

    /** The triangle's depth at a pixel's middle, -1 where it does not cover the pixel. */
    private int depthOf(int column, int row) {
        int[] middle = {16 * column + 8, 16 * row + 8};
        int[][] v = vertices.clone();
        BigInteger area = e(v[0], v[1], v[2]);
        if (area.signum() == 0) {
            return -1;
        }
        if (area.signum() < 0) {
            v[1] = vertices[2];
            v[2] = vertices[1];
            area = area.negate();
        }
        BigInteger sum = BigInteger.ZERO;
        for (int k = 0; k < 3; k++) {
            int[] from = v[(k + 1) % 3];
            int[] to = v[(k + 2) % 3];
            BigInteger weight = e(from, to, middle);
            boolean topOrLeft = from[1] == to[1] && to[0] > from[0] || to[1] < from[1];
            if (weight.signum() < 0 || weight.signum() == 0 && !topOrLeft) {
                return -1;
            }
            sum = sum.add(weight.multiply(BigInteger.valueOf(v[k][2])));
        }
        return sum.divide(area).intValueExact();
    }

    private static BigInteger e(int[] a, int[] b, int[] p) {
        BigInteger across = BigInteger.valueOf(b[0] - a[0]).multiply(BigInteger.valueOf(p[1] - a[1]));
        BigInteger down = BigInteger.valueOf(b[1] - a[1]).multiply(BigInteger.valueOf(p[0] - a[0]));
        return across.subtract(down);
    }
}
