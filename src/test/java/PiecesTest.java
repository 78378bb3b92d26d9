/** Promise 11: pieces counts the pieces that hang together side by side. */
final class PiecesTest {
    private static final Due DUE = new Due();

    public static void main(String[] args) {
        pieces(new int[] {1, 0}, "00", "00");
        pieces(new int[] {4, 2, 3}, "01022", "10200", "11102");
        pieces(new int[] {1, 1}, "11111", "10001", "10001", "11111");
        // Arms that meet only further down are one piece, also when they are met from the right.
        pieces(new int[] {2, 1}, "10101", "10101", "11111");
        pieces(new int[] {1, 1}, "00001", "01101", "01001", "01111");
        // A row's end and the next row's beginning, and pixels corner to corner, are apart.
        pieces(new int[] {1, 2}, "001", "100");
        pieces(new int[] {5, 4}, "010", "101", "010");
        piecesOfNoneAndAll();
        chequered();
        changesNothing();
        DUE.end();
    }

    private static void pieces(int[] want, String... rows) {
        TriangleRaster x = Draw.picture(rows);
        for (int c = 0; c < want.length; c++) {
            DUE.same(String.join("/", rows) + " pieces(" + c + ")", x.pieces(c), want[c]);
        }
        DUE.same("pieces(9)", x.pieces(9), 0);
        DUE.same("pieces(-1)", x.pieces(-1), 0);
    }

    /** A colour that no pixel has falls into none, one that all pixels have is one piece. */
    private static void piecesOfNoneAndAll() {
        for (int[] size : new int[][] {{1, 1}, {24, 1}, {1, 24}, {5, 3}, {24, 24}}) {
            for (int c : new int[] {0, -1, 1, Integer.MIN_VALUE, Integer.MAX_VALUE}) {
                TriangleRaster x = new TriangleRaster(size[0], size[1]);
                DUE.same("pieces(0) of a new object", x.pieces(0), 1);
                x.clear(c, 0);
                DUE.same("pieces of all", x.pieces(c), 1);
                for (int none : new int[] {c + 1, c - 1, ~c, c ^ 1 << 31, c ^ 1 << 16}) {
                    DUE.same("pieces of none", x.pieces(none), 0);
                }
                x.line(0, 0, 0, 0, c + 1);
                DUE.same("pieces of all but one", x.pieces(c), size[0] * size[1] == 1 ? 0 : 1);
                DUE.same("pieces of the one", x.pieces(c + 1), 1);
                x.fill(0, 0, c);
                DUE.same("pieces of all again", x.pieces(c), 1);
                DUE.same("pieces of none again", x.pieces(c + 1), 0);
            }
        }
    }

    /** The most pieces there can be, made by slanted lines alone. */
    private static void chequered() {
        TriangleRaster x = new TriangleRaster(24, 24);
        for (int at = -22; at <= 22; at += 2) {
            x.line(0, at, 23, at + 23, -1);
        }
        DUE.same("pieces(-1)", x.pieces(-1), 288);
        DUE.same("pieces(0)", x.pieces(0), 288);
        DUE.same("count(-1)", x.count(-1), 288);
    }

    /** Asking again, and filling between, is not misled by what was looked at before. */
    private static void changesNothing() {
        TriangleRaster x = Draw.picture("01022", "10200", "11102");
        for (int again = 0; again < 3; again++) {
            DUE.same("pieces(0) again", x.pieces(0), 4);
            DUE.same("pieces(1) again", x.pieces(1), 2);
        }
        DUE.picture("unchanged", x, "01022", "10200", "11102");
        DUE.same("fill(0, 0, 1)", x.fill(0, 0, 1), 1);
        DUE.same("pieces(1) joined", x.pieces(1), 1);
        DUE.same("fill(1, 0, 2)", x.fill(1, 0, 2), 6);
        DUE.same("pieces(2) after fill", x.pieces(2), 3);
    }
}
