import java.util.stream.IntStream;

/** The numbers round the ends of a range: the last that are allowed and the first that are not. */
final class Range {
    static final Range SIDE = new Range(1, 24);
    static final Range DEPTH = new Range(0, 65535);
    static final Range VERTEX = new Range(0, 2);
    static final Range VERTEX_DEPTH = new Range(0, 32768);
    static final Range COORDINATE = new Range(-16384, 16384);
    static final Range COVERED_PLACE = new Range(-2000, 2000);

    private final int least;
    private final int most;

    Range(int least, int most) {
        this.least = least;
        this.most = most;
    }

    /** Both ends, and their neighbours inside. */
    int[] allowed() {
        return IntStream.of(least, least + 1, most - 1, most).filter(this::has).distinct().toArray();
    }

    /**
     * The neighbours outside, the least and the greatest int, and numbers that would be
     * allowed again if their upper bits, or their sign, were lost.
     */
    int[] refused() {
        int inside = least + (most - least) / 2;
        return IntStream.of(least - 1, most + 1, Integer.MIN_VALUE, Integer.MAX_VALUE, Integer.MIN_VALUE + 1,
                inside + (1 << 8), inside + (1 << 16), inside - (1 << 16), inside + (1 << 28), inside + (1 << 30),
                ~inside, -most).filter(number -> !has(number)).distinct().toArray();
    }

    private boolean has(int number) {
        return number >= least && number <= most;
    }
}
