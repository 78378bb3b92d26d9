/** Mixed calls, the same each time: the numbers follow from the run's own one. */
final class Mixed {
    static final int KINDS = 10;

    private static final int[] EDGES = {0, 1, -1, 2, 3, 23, 24, 25, 2000, 2001, -2000, -2001, 16384, 16385,
        -16384, -16385, 32768, 32769, 65535, 65536, Integer.MAX_VALUE, Integer.MIN_VALUE};

    private long state;

    Mixed(int run) {
        state = 0x9E3779B97F4A7C15L * (run + 1);
    }

    int side() {
        return below(8) == 0 ? edge() : 1 + below(24);
    }

    /** A call of any kind; vertices and triangles more often than others. */
    void call(Both both) {
        int chance = below(13);
        call(both, chance < KINDS ? chance : chance == 12 ? 2 : 1);
    }

    void call(Both both, int kind) {
        int c = colour();
        int a = place();
        int b = place();
        switch (kind) {
            case 0 -> both.clear(c, below(3) == 0 ? edge() : below(65536));
            case 1 -> {
                int k = below(20) == 0 ? edge() : below(3);
                int z = below(10) == 0 ? edge() : below(4) == 0 ? below(4) : below(32769);
                both.vertex(k, corner(), corner(), z);
            }
            case 2 -> both.triangle(c);
            case 3 -> both.covers(below(2) == 0 ? a : below(4001) - 2000, below(2) == 0 ? b : below(4001) - 2000);
            case 4 -> both.line(a, b, far(), far(), c);
            case 5 -> both.fill(a, b, c);
            case 6 -> both.pixel(a, b);
            case 7 -> both.depthAt(a, b);
            case 8 -> both.count(c);
            default -> both.pieces(c);
        }
    }

    private int below(int bound) {
        state = state * 6364136223846793005L + 1442695040888963407L;
        return (int) ((state >>> 33) % bound);
    }

    private int edge() {
        return EDGES[below(EDGES.length)];
    }

    /** Few colours, so that pixels of one colour meet. */
    private int colour() {
        return below(30) == 0 ? edge() : below(4) - 1;
    }

    private int place() {
        return below(15) == 0 ? edge() : below(28) - 2;
    }

    private int far() {
        return below(3) == 0 ? below(32771) - 16385 : place();
    }

    /** Often on a pixel's middle, so that middles lie on edges. */
    private int corner() {
        return switch (below(8)) {
            case 0 -> edge();
            case 1 -> below(32769) - 16384;
            case 2, 3 -> below(500) - 50;
            default -> 16 * (below(28) - 2) + 8;
        };
    }
}
