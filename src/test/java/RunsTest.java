/** All promises at once: long runs of mixed calls, each answer the same as PlainRaster's. */
final class RunsTest {
    private static final Due DUE = new Due();
    private static final int[] EDGES = {0, 1, -1, 2, 3, 23, 24, 25, 2000, 2001, -2000, -2001, 16384, 16385,
        -16384, -16385, 32768, 32769, 65535, 65536, Integer.MAX_VALUE, Integer.MIN_VALUE};

    // The runs are the same each time: the numbers follow from the run's own one.
    private long state;

    private RunsTest(int run) {
        state = 0x9E3779B97F4A7C15L * (run + 1);
    }

    public static void main(String[] args) {
        for (int run = 0; run < 400; run++) {
            new RunsTest(run).play(run);
        }
        DUE.end();
    }

    private void play(int run) {
        int w = below(8) == 0 ? edge() : 1 + below(24);
        int h = below(8) == 0 ? edge() : 1 + below(24);
        TriangleRaster x = new TriangleRaster(w, h);
        PlainRaster plain = new PlainRaster(w, h);
        for (int call = 0; call < 120; call++) {
            step("run " + run + " (" + w + ", " + h + "), call " + call, x, plain);
        }
        // Every third pixel, another third in the next run: an object is for 512 calls.
        for (int p = run % 3; p < 576; p += 3) {
            int column = p % 24;
            int row = p / 24;
            DUE.same("run " + run + " pixel", x.pixel(column, row), plain.pixel(column, row));
            DUE.same("run " + run + " depthAt", x.depthAt(column, row), plain.depthAt(column, row));
        }
    }

    private void step(String when, TriangleRaster x, PlainRaster plain) {
        int c = colour();
        int a = place();
        int b = place();
        switch (below(13)) {
            case 0 -> {
                int z = below(3) == 0 ? edge() : below(65536);
                DUE.same(when + " clear", x.clear(c, z), plain.clear(c, z));
            }
            case 1, 2, 3 -> {
                int k = below(20) == 0 ? edge() : below(3);
                int vx = corner();
                int vy = corner();
                int z = below(10) == 0 ? edge() : below(4) == 0 ? below(4) : below(32769);
                DUE.same(when + " vertex", x.vertex(k, vx, vy, z), plain.vertex(k, vx, vy, z));
            }
            case 4, 5 -> DUE.same(when + " triangle", x.triangle(c), plain.triangle(c));
            case 6 -> {
                int column = below(2) == 0 ? a : below(4001) - 2000;
                int row = below(2) == 0 ? b : below(4001) - 2000;
                DUE.same(when + " covers", x.covers(column, row), plain.covers(column, row));
            }
            case 7 -> {
                int x1 = far();
                int y1 = far();
                DUE.same(when + " line", x.line(a, b, x1, y1, c), plain.line(a, b, x1, y1, c));
            }
            case 8 -> DUE.same(when + " fill", x.fill(a, b, c), plain.fill(a, b, c));
            case 9 -> DUE.same(when + " pixel", x.pixel(a, b), plain.pixel(a, b));
            case 10 -> DUE.same(when + " depthAt", x.depthAt(a, b), plain.depthAt(a, b));
            case 11 -> DUE.same(when + " count", x.count(c), plain.count(c));
            default -> DUE.same(when + " pieces", x.pieces(c), plain.pieces(c));
        }
    }

    private int below(int bound) {
        state = state * 6364136223846793005L + 1442695040888963407L;
        return (int) ((state >>> 33) % bound);
    }

    private int edge() {
        return EDGES[below(EDGES.length)];
    }

    /** Few colours, so that pixels of one colour meet. */
    private int colour() {
        return below(30) == 0 ? edge() : below(4) - 1;
    }

    private int place() {
        return below(15) == 0 ? edge() : below(28) - 2;
    }

    private int far() {
        return below(3) == 0 ? below(32771) - 16385 : place();
    }

    /** Often on a pixel's middle, so that middles lie on edges. */
    private int corner() {
        return switch (below(8)) {
            case 0 -> edge();
            case 1 -> below(32769) - 16384;
            case 2, 3 -> below(500) - 50;
            default -> 16 * (below(28) - 2) + 8;
        };
    }
}
