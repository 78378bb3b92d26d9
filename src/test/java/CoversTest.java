/** Promise 5: covers, also outside of the picture, and its bounds. */
final class CoversTest {
    private static final Due DUE = new Due();

    public static void main(String[] args) {
        sameAsTriangle();
        outsideOfThePicture();
        lastPlacesThatCanBeCovered();
        placesThatAreSuch();
        placesThatAreNotSuch();
        changesNothing();
        DUE.end();
    }

    private static void sameAsTriangle() {
        TriangleRaster x = new TriangleRaster(6, 6);
        int[][] triangles = {{8, 8, 88, 8, 8, 88}, {88, 8, 88, 88, 8, 88}, {3, 90, 60, 2, 40, 40},
            {8, 8, 8, 8, 40, 40}, {0, 0, 96, 96, 48, 48}, {24, 88, 24, 8, 72, 40}};
        for (int[] places : triangles) {
            Draw.flat(x, 5, places);
            x.clear(0, 65535);
            x.triangle(1);
            for (int p = 0; p < 36; p++) {
                DUE.same("covers", x.covers(p % 6, p / 6), x.pixel(p % 6, p / 6) == 1);
            }
        }
        // Covering has nothing to do with what stands in front.
        x.clear(0, 0);
        DUE.same("triangle(1) behind all", x.triangle(1), 0);
        DUE.same("covers(1, 2) behind all", x.covers(1, 2), true);
    }

    /** "also one outside of the picture": on each side of it, and the smallest one at that. */
    private static void outsideOfThePicture() {
        TriangleRaster x = new TriangleRaster(1, 1);
        Draw.flat(x, 5, -152, -152, -88, -152, -152, -88);
        DUE.same("covers(-10, -10)", x.covers(-10, -10), true);
        DUE.same("covers(-7, -10)", x.covers(-7, -10), true);
        DUE.same("covers(-6, -10)", x.covers(-6, -10), false);
        DUE.same("covers(-10, -7)", x.covers(-10, -7), true);
        DUE.same("covers(-10, -6)", x.covers(-10, -6), false);
        DUE.same("covers(-11, -10)", x.covers(-11, -10), false);
        DUE.same("covers(-10, -11)", x.covers(-10, -11), false);
        DUE.same("covers(-8, -9)", x.covers(-8, -9), true);
        DUE.same("covers(-8, -8)", x.covers(-8, -8), false);
        DUE.same("covers(0, 0)", x.covers(0, 0), false);
        Draw.flat(x, 5, -48, -48, 160, -48, -48, 160);
        int[][] round = {{-1, -1}, {0, -1}, {1, -1}, {-1, 0}, {0, 0}, {1, 0}, {-1, 1}, {0, 1}, {1, 1}};
        for (int[] at : round) {
            DUE.same("covers(" + at[0] + ", " + at[1] + ")", x.covers(at[0], at[1]), true);
        }
    }

    /** No vertex lies further out than these pixels do. */
    private static void lastPlacesThatCanBeCovered() {
        TriangleRaster x = new TriangleRaster(2, 2);
        Draw.flat(x, 5, -16384, -16384, 16384, -16384, -16384, 16384);
        DUE.same("covers(-1024, -1024)", x.covers(-1024, -1024), true);
        DUE.same("covers(-1025, -1024)", x.covers(-1025, -1024), false);
        DUE.same("covers(-1024, -1025)", x.covers(-1024, -1025), false);
        DUE.same("covers(1022, -1024)", x.covers(1022, -1024), true);
        DUE.same("covers(1023, -1024)", x.covers(1023, -1024), false);
        DUE.same("covers(-1024, 1022)", x.covers(-1024, 1022), true);
        DUE.same("covers(-1024, 1023)", x.covers(-1024, 1023), false);
        Draw.flat(x, 5, 16384, 16384, 16384, -16384, -16384, 16384);
        DUE.same("covers(1023, 1023)", x.covers(1023, 1023), true);
        DUE.same("covers(1024, 1023)", x.covers(1024, 1023), false);
        DUE.same("covers(1023, 1024)", x.covers(1023, 1024), false);
        DUE.same("covers(1023, -1024)", x.covers(1023, -1024), true);
        DUE.same("covers(-1024, 1023)", x.covers(-1024, 1023), true);
    }

    /** "with column and row of -2000 .. 2000": out there E is greatest, and must not wrap round. */
    private static void placesThatAreSuch() {
        int[][] triangles = {{-16384, -16384, 16384, -16384, -16384, 16384},
            {16384, 16384, -16384, 16384, 16384, -16384}, {-16384, 16384, 16384, -16384, 16384, 16384},
            {-16384, -16384, 16384, 16384, -16384, 16384}, {0, -16384, 16384, 0, -16384, 16384}};
        for (int[] places : triangles) {
            TriangleRaster x = new TriangleRaster(2, 2);
            Draw.flat(x, 5, places);
            for (int far : Range.COVERED_PLACE.allowed()) {
                for (int at : new int[] {-2000, -1999, -1024, -512, -1, 0, 1, 511, 1023, 1999, 2000}) {
                    DUE.same("covers(" + far + ", " + at + ")", x.covers(far, at), false);
                    DUE.same("covers(" + at + ", " + far + ")", x.covers(at, far), false);
                }
            }
        }
    }

    /** "false for others": also where 16 times the place would be a covered one again in an int. */
    private static void placesThatAreNotSuch() {
        TriangleRaster x = new TriangleRaster(2, 2);
        Draw.flat(x, 5, -16384, -16384, 16384, -16384, -16384, 16384);
        for (int bad : Range.COVERED_PLACE.refused()) {
            for (int other : Range.COVERED_PLACE.refused()) {
                DUE.same("covers(" + bad + ", " + other + ")", x.covers(bad, other), false);
            }
            DUE.same("covers(" + bad + ", -900)", x.covers(bad, -900), false);
            DUE.same("covers(-900, " + bad + ")", x.covers(-900, bad), false);
        }
        for (int place = -5; place <= 5; place++) {
            DUE.same("covers(place, -900)", x.covers(place, -900), true);
            DUE.same("covers(-900, place)", x.covers(-900, place), true);
            for (int fold = 1 << 28; fold != 0; fold <<= 1) {
                DUE.same("covers(" + (place + fold) + ", -900)", x.covers(place + fold, -900), false);
                DUE.same("covers(-900, " + (place + fold) + ")", x.covers(-900, place + fold), false);
                DUE.same("covers(" + (place - fold) + ", -900)", x.covers(place - fold, -900), false);
                DUE.same("covers(-900, " + (place - fold) + ")", x.covers(-900, place - fold), false);
            }
        }
    }

    private static void changesNothing() {
        TriangleRaster x = new TriangleRaster(2, 2);
        x.clear(3, 77);
        Draw.flat(x, 5, 0, 0, 0, 64, 64, 0);
        DUE.same("covers(0, 0)", x.covers(0, 0), true);
        DUE.same("colour", x.count(3), 4);
        DUE.same("depth", x.depthAt(0, 0), 77);
    }
}
