/** What a test expects of its calls: prints each that is not as due, and ends the test. */
final class Due {
    private int wrong = 0;

    void same(String call, long got, long want) {
        if (got != want) {
            wrong++;
            System.out.println(call + " answered " + got + ", due is " + want);
        }
    }

    void same(String call, boolean got, boolean want) {
        same(call, got ? 1L : 0L, want ? 1L : 0L);
    }

    /** The picture's colours, a row a text: '0' .. '9' are colours 0 .. 9, '?' is any other one. */
    void picture(String when, TriangleRaster x, String... rows) {
        for (int row = 0; row < rows.length; row++) {
            StringBuilder got = new StringBuilder();
            for (int column = 0; column < rows[row].length(); column++) {
                int colour = x.pixel(column, row);
                got.append(colour >= 0 && colour <= 9 ? (char) ('0' + colour) : '?');
            }
            if (!got.toString().equals(rows[row])) {
                wrong++;
                System.out.println(when + ": row " + row + " is " + got + ", due is " + rows[row]);
            }
        }
        size(when, x, rows[0].length(), rows.length);
    }

    /** That the picture has just so many columns and rows. */
    void size(String when, TriangleRaster x, int w, int h) {
        same(when + ": its last pixel is there", x.depthAt(w - 1, h - 1) != TriangleRaster.NONE, true);
        same(when + ": depthAt one column on", x.depthAt(w, 0), TriangleRaster.NONE);
        same(when + ": depthAt one row on", x.depthAt(0, h), TriangleRaster.NONE);
    }

    void end() {
        if (wrong != 0) {
            System.out.println(wrong + " answers are not as due");
            System.exit(1);
        }
    }
}
