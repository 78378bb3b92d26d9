/** All promises at once: long runs of mixed calls, each answer the same as PlainRaster's. */
final class RunsTest {
    public static void main(String[] args) {
        Due due = new Due();
        for (int run = 0; run < 400; run++) {
            Mixed mixed = new Mixed(run);
            Both both = new Both(due, "run " + run, mixed.side(), mixed.side());
            for (int call = 0; call < 120; call++) {
                mixed.call(both);
            }
            someOfThePixels(both, run % 3);
        }
        due.end();
    }

    /** Every third pixel, another third in the next run: an object is for 512 calls. */
    private static void someOfThePixels(Both both, int first) {
        for (int p = first; p < 24 * 24; p += 3) {
            both.pixel(p % 24, p / 24);
            both.depthAt(p % 24, p / 24);
        }
    }
}
