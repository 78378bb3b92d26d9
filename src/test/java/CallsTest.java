/**
 * "An object is used for at most 512 calls after it has been made": the 512th call is
 * answered as well as the first, whichever it is and whatever the 511 before it were.
 */
final class CallsTest {
    private static final Due DUE = new Due();
    private static final int MOST_CALLS = 512;

    public static void main(String[] args) {
        lastOfEachKind();
        changesAllAlong();
        readingsAllAlong();
        refusedAllAlong();
        DUE.end();
    }

    private static void lastOfEachKind() {
        for (int run = 0; run < 8 * Mixed.KINDS; run++) {
            int kind = run % Mixed.KINDS;
            Mixed mixed = new Mixed(1000 + run);
            Both both = new Both(DUE, "last of kind " + kind, 24, 24);
            while (both.calls() < MOST_CALLS - 1) {
                mixed.call(both);
            }
            mixed.call(both, kind);
            DUE.same("calls", both.calls(), MOST_CALLS);
        }
    }

    /** 512 calls that each change the greatest picture, the last of them too. */
    private static void changesAllAlong() {
        TriangleRaster filled = new TriangleRaster(24, 24);
        TriangleRaster lined = new TriangleRaster(24, 24);
        for (int call = 1; call <= MOST_CALLS; call++) {
            DUE.same("fill, call " + call, filled.fill(call % 24, call % 23, call), 576);
            DUE.same("line, call " + call, lined.line(-16384, -16384, 16384, 16384, call), 24);
        }
        TriangleRaster drawn = new TriangleRaster(24, 24);
        Draw.flat(drawn, 0, -16384, -16384, 16384, -16384, 0, 16384);
        for (int call = 4; call < MOST_CALLS; call += 2) {
            DUE.same("clear, call " + call, drawn.clear(call, 1), true);
            DUE.same("triangle, call " + (call + 1), drawn.triangle(call), 576);
        }
        DUE.same("triangle behind, call 512", drawn.triangle(1), 0);
        TriangleRaster moved = new TriangleRaster(24, 24);
        for (int call = 1; call < MOST_CALLS; call++) {
            DUE.same("vertex, call " + call, moved.vertex(call % 3, 160 * (call % 3), 16 * call * (call % 2), 0), true);
        }
        // The last three set vertices 2, 0 and 1 to (320, 8144), (0, 0) and (160, 8176).
        DUE.same("covers, call 512", moved.covers(7, 255), true);
    }

    private static void readingsAllAlong() {
        TriangleRaster x = new TriangleRaster(24, 24);
        int calls = 0;
        for (int at = -22; at <= 22; at += 2) {
            x.line(0, at, 23, at + 23, 7);
            calls++;
        }
        for (calls += 2; calls <= MOST_CALLS; calls += 2) {
            DUE.same("pieces, by call " + calls, x.pieces(7), 288);
            DUE.same("count, by call " + calls, x.count(7), 288);
        }
    }

    private static void refusedAllAlong() {
        TriangleRaster x = new TriangleRaster(24, 24);
        for (int call = 1; call < MOST_CALLS; call++) {
            DUE.same("line, call " + call, x.line(0, 0, 16385, 0, 1), -1);
        }
        DUE.same("fill, call 512", x.fill(23, 23, 1), 576);
    }
}
