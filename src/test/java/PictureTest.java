/** Promises 10 to 13: row, share, spans, span. */
public final class PictureTest {
    private static final Due DUE = new Due();

    public static void main(String[] args) {
        refuses();
        rowsFromTheTop();
        rowsAtTheMiddles();
        sharesOfAnEdge();
        sharesOfASlope();
        sharesAtTheirPoints();
        spansOfARow();
        spansToTheEdges();
        mostSpans();
        roundOutline();
        DUE.end("PictureTest");
    }

    private static void refuses() {
        CurveRaster raster = Due.outline(0, 0, 1, 4096, 4096, 1, 4096, 0, 1);
        int[] wrong = {-1, 64, 4096, Integer.MIN_VALUE, Integer.MAX_VALUE};
        for (int index : wrong) {
            Class<IndexOutOfBoundsException> due = IndexOutOfBoundsException.class;
            DUE.refused("row(" + index + ")", due, () -> raster.row(index));
            DUE.refused("share(" + index + ", 0)", due, () -> raster.share(index, 0));
            DUE.refused("share(0, " + index + ")", due, () -> raster.share(0, index));
            DUE.refused("spans(" + index + ")", due, () -> raster.spans(index));
            DUE.refused("span(" + index + ", 0, false)", due, () -> raster.span(index, 0, false));
            DUE.refused("span(" + index + ", -1, true)", due, () -> raster.span(index, -1, true));
        }
    }

    private static void rowsFromTheTop() {
        CurveRaster raster = new CurveRaster();
        Due.box(raster, 0, 0, 192, 64);
        Due.box(raster, 4032, 4032, 4096, 4096);
        DUE.due("row(63)", raster.row(63), 7);
        DUE.due("row(62)", raster.row(62), 0);
        DUE.due("row(1)", raster.row(1), 0);
        DUE.due("row(0)", raster.row(0), Long.MIN_VALUE);
        DUE.due("share(63, 0)", raster.share(63, 0), 16);
        DUE.due("share(62, 0)", raster.share(62, 0), 0);
        DUE.due("share(0, 63)", raster.share(0, 63), 16);
        DUE.due("share(3, 63)", raster.share(3, 63), 0);
    }

    /** A pixel is set by its middle alone: at the left and lower edge it is in, at the right and upper it is not. */
    private static void rowsAtTheMiddles() {
        int[][] boxes = {{32, 32, 33, 33}, {33, 32, 96, 33}, {32, 33, 33, 96}, {0, 0, 32, 64}, {0, 0, 64, 32},
            {31, 31, 33, 33}};
        int[] set = {1, 0, 0, 0, 0, 1};
        for (int i = 0; i < boxes.length; i++) {
            CurveRaster raster = new CurveRaster();
            Due.box(raster, boxes[i][0], boxes[i][1], boxes[i][2], boxes[i][3]);
            DUE.due("box " + i + ": row(63)", raster.row(63), set[i]);
            DUE.due("box " + i + ": pixels", raster.count(4), set[i]);
        }
    }

    private static void sharesOfAnEdge() {
        int[] columns = {0, 0, 0, 0, 0, 0, 0, 0, 0, 1, 1, 1, 1, 1, 1, 1, 1, 1, 1, 1, 1, 1, 1, 1, 1, 2};
        for (int width = 1; width < columns.length; width++) {
            CurveRaster raster = new CurveRaster();
            Due.box(raster, 640, 640, 640 + width, 704);
            DUE.due("share, " + width + " wide", raster.share(10, 53), 4 * columns[width]);
            raster.clear();
            Due.box(raster, 640, 640, 704, 640 + width);
            DUE.due("share, " + width + " high", raster.share(10, 53), 4 * columns[width]);
        }
    }

    private static void sharesOfASlope() {
        CurveRaster raster = Due.outline(0, 0, 1, 64, 64, 1, 64, 0, 1);
        DUE.due("share under the line from corner to corner", raster.share(0, 63), 10);
        CurveRaster other = Due.outline(0, 0, 1, 0, 64, 1, 64, 64, 1);
        DUE.due("share over it", other.share(0, 63), 6);
        CurveRaster curve = Due.outline(0, 0, 1, 0, 64, 0, 64, 64, 1, 64, 0, 1);
        // x = 64 t t, y = 64 (2 t - t t): at 8, 24, 40, 56 the place is before 1, 3, 9, 27
        DUE.due("share under the curve", curve.share(0, 63), 4 + 4 + 3 + 2);
        DUE.due("share beside the curve", curve.share(1, 63), 0);
        DUE.due("share above the curve", curve.share(0, 62), 0);
    }

    private static void sharesAtTheirPoints() {
        for (int j = 0; j < 4; j++) {
            for (int i = 0; i < 4; i++) {
                CurveRaster raster = new CurveRaster();
                int x = 64 * 5 + 8 + 16 * i;
                int y = 64 * 7 + 8 + 16 * j;
                Due.box(raster, x, y, x + 1, y + 1);
                DUE.due("share of point " + i + ", " + j, raster.share(5, 56), 1);
                DUE.due("share beside it", raster.share(6, 56) + raster.share(5, 55) + raster.share(4, 56), 0);
                DUE.due("winding there", raster.winding(x, y), 1);
                DUE.due("pixels", raster.count(4), 0);
            }
        }
    }

    private static void span(CurveRaster raster, int k, int begin, int end) {
        DUE.due("span(63, " + k + ", false)", raster.span(63, k, false), begin);
        DUE.due("span(63, " + k + ", true)", raster.span(63, k, true), end);
    }

    private static void spansOfARow() {
        CurveRaster raster = new CurveRaster();
        DUE.due("spans of nothing", raster.spans(63), 0);
        span(raster, 0, CurveRaster.NONE, CurveRaster.NONE);
        Due.box(raster, 64, 0, 128, 64);
        Due.box(raster, 1280, 0, 1920, 64);
        Due.box(raster, 192, 0, 384, 64);
        DUE.due("spans", raster.spans(63), 3);
        DUE.due("spans of the row above", raster.spans(62), 0);
        span(raster, 0, 1, 2);
        span(raster, 1, 3, 6);
        span(raster, 2, 20, 30);
        int[] none = {3, 4, 64, -1, -2, Integer.MAX_VALUE, Integer.MIN_VALUE};
        for (int k : none) {
            span(raster, k, CurveRaster.NONE, CurveRaster.NONE);
        }
        Due.box(raster, 128, 0, 192, 64);
        DUE.due("spans, two of them joined", raster.spans(63), 2);
        span(raster, 0, 1, 6);
        span(raster, 1, 20, 30);
    }

    private static void spansToTheEdges() {
        CurveRaster raster = new CurveRaster();
        Due.box(raster, -64, 0, 8000, 64);
        DUE.due("spans, the whole row", raster.spans(63), 1);
        span(raster, 0, 0, 64);
        span(raster, 1, CurveRaster.NONE, CurveRaster.NONE);
        raster.parity(true);
        Due.box(raster, 64, 0, 4032, 64);
        DUE.due("spans, both ends", raster.spans(63), 2);
        span(raster, 0, 0, 1);
        span(raster, 1, 63, 64);
        span(raster, 2, CurveRaster.NONE, CurveRaster.NONE);
    }

    private static void mostSpans() {
        CurveRaster raster = new CurveRaster();
        for (int k = 0; k < 32; k++) {
            Due.box(raster, 128 * k + 64, 0, 128 * k + 128, 64);
        }
        DUE.due("most spans", raster.spans(63), 32);
        DUE.due("most spans, row", raster.row(63), 0xAAAAAAAAAAAAAAAAL);
        for (int k = 0; k < 32; k++) {
            span(raster, k, 2 * k + 1, 2 * k + 2);
        }
        span(raster, 32, CurveRaster.NONE, CurveRaster.NONE);
    }

    /** The true curve, not a line near it: four points not on make a round of which the corners are not set. */
    private static void roundOutline() {
        CurveRaster raster = Due.outline(0, 0, 0, 0, 640, 0, 640, 640, 0, 640, 0, 0);
        // the upper left curve is x = 320 t t, y = 640 - 320 (1 - t) (1 - t): at the rows' heights 149.6, 65.4, 27.4, ..
        int[] rows = {0b0011111100, 0b0111111110, 0b1111111111, 0b1111111111, 0b1111111111};
        for (int i = 0; i < 5; i++) {
            DUE.due("round, row(" + (54 + i) + ")", raster.row(54 + i), rows[i]);
            DUE.due("round, row(" + (63 - i) + ")", raster.row(63 - i), rows[i]);
        }
        DUE.due("round, row(53)", raster.row(53), 0);
        DUE.due("round, spans", raster.spans(54), 1);
    }
}
