/** The boundary cases of promises 8 to 14, the calls that ask: a test for each sentence. */
public final class AskEdgesTest {
    private static final Due DUE = new Due();
    private static final int MIN = Integer.MIN_VALUE;
    private static final int MAX = Integer.MAX_VALUE;
    private static final int[] NO_INDICES = {MIN, MIN + 63, -64, -2, -1, 64, 65, 127, 128, 4096, MAX - 63, MAX};

    public static void main(String[] args) {
        DUE.part(AskEdgesTest::countContours);
        DUE.part(AskEdgesTest::countPoints);
        DUE.part(AskEdgesTest::countLinesAndCurves);
        DUE.part(AskEdgesTest::countPixels);
        DUE.part(AskEdgesTest::countNone);
        DUE.part(AskEdgesTest::windingOfNothing);
        DUE.part(AskEdgesTest::windingAtTheLimits);
        DUE.part(AskEdgesTest::windingCoordinateIsNot);
        DUE.part(AskEdgesTest::rowBitXIsPixelX);
        DUE.part(AskEdgesTest::rowNoneSuch);
        DUE.part(AskEdgesTest::shareNoneSuch);
        DUE.part(AskEdgesTest::shareOfTheCorners);
        DUE.part(AskEdgesTest::spansNoneAndMost);
        DUE.part(AskEdgesTest::spansNoneSuch);
        DUE.part(AskEdgesTest::spanFromTheLeft);
        DUE.part(AskEdgesTest::spanThePlaceBehind);
        DUE.part(AskEdgesTest::spanNoneIfNoneSuch);
        DUE.part(AskEdgesTest::spanNoSuchRow);
        DUE.part(AskEdgesTest::extentNotAboveTheLeast);
        DUE.part(AskEdgesTest::extentNotBelowTheGreatest);
        DUE.part(AskEdgesTest::extentOfCurvesThatDoNotTurn);
        DUE.part(AskEdgesTest::extentAtTheLimits);
        DUE.part(AskEdgesTest::extentOfAllLinesAndCurves);
        DUE.part(AskEdgesTest::extentAnotherWhat);
        DUE.part(AskEdgesTest::extentNoContours);
        DUE.part(AskEdgesTest::extentFirstExceptionWins);
        DUE.end("AskEdgesTest");
    }

    private static CurveRaster boxed(int left, int bottom, int right, int top) {
        CurveRaster raster = new CurveRaster();
        Due.box(raster, left, bottom, right, top);
        return raster;
    }

    private static void extents(String text, CurveRaster raster, int... want) {
        for (int what = 0; what < 4; what++) {
            DUE.due(text + ": extent(" + what + ")", raster.extent(what), want[what]);
        }
    }

    private static void countContours() {
        DUE.about("Promise 8: what = 0 contours");
        CurveRaster raster = new CurveRaster();
        DUE.due("none", raster.count(0), 0);
        raster.add(0, 0, true);
        DUE.due("an open one", raster.count(0), 0);
        for (int i = 1; i <= 64; i++) {
            raster.close();
            DUE.due("closed", raster.count(0), i);
            raster.add(0, 0, true);
        }
        DUE.due("64 and an open one", raster.count(0), 64);
        raster.drop();
        DUE.due("64 and none open", raster.count(0), 64);
        raster.clear();
        DUE.due("cleared", raster.count(0), 0);
    }

    private static void countPoints() {
        DUE.about("Promise 8: 1 points (the open contour's too)");
        CurveRaster raster = new CurveRaster();
        DUE.due("none", raster.count(1), 0);
        raster.add(0, 0, false);
        DUE.due("an open one", raster.count(1), 1);
        raster.add(9, 9, false);
        DUE.due("two open", raster.count(1), 2);
        raster.close();
        DUE.due("two closed, of those put in none", raster.count(1), 2);
        raster.add(9, 9, true);
        DUE.due("two closed and one open", raster.count(1), 3);
        raster.drop();
        DUE.due("two closed, the other dropped", raster.count(1), 2);
        raster.clear();
        DUE.due("cleared", raster.count(1), 0);
        CurveRaster many = new CurveRaster();
        for (int i = 1; i <= 511; i++) {
            many.add(0, 0, true);
        }
        DUE.due("511, at call 512", many.count(1), 511);
    }

    private static void countLinesAndCurves() {
        DUE.about("Promise 8: 2 LINES, 3 CURVES");
        // each contour's points, on or not; its lines; its curves
        String[] contours =
            {"1", "0", "11", "10", "01", "00", "111", "101", "011", "110", "100", "000", "1010", "0110"};
        int[] lines = {1, 0, 2, 0, 0, 0, 3, 1, 1, 1, 0, 0, 0, 1};
        int[] curves = {0, 1, 0, 1, 1, 2, 0, 1, 1, 1, 2, 3, 2, 2};
        CurveRaster all = new CurveRaster();
        int allLines = 0;
        int allCurves = 0;
        for (int i = 0; i < contours.length; i++) {
            CurveRaster one = new CurveRaster();
            tell(one, contours[i]);
            DUE.due(contours[i] + ", open: count(2)", one.count(2), 0);
            DUE.due(contours[i] + ", open: count(3)", one.count(3), 0);
            one.close();
            DUE.due(contours[i] + ": count(2)", one.count(2), lines[i]);
            DUE.due(contours[i] + ": count(3)", one.count(3), curves[i]);
            tell(all, contours[i]);
            all.close();
            allLines += lines[i];
            allCurves += curves[i];
            DUE.due("up to " + contours[i] + ": count(2)", all.count(2), allLines);
            DUE.due("up to " + contours[i] + ": count(3)", all.count(3), allCurves);
        }
    }

    private static void tell(CurveRaster raster, String ons) {
        for (int i = 0; i < ons.length(); i++) {
            raster.add(100 * i, 50 * i * i, ons.charAt(i) == '1');
        }
    }

    private static void countPixels() {
        DUE.about("Promise 8: 4 pixels that are SET");
        DUE.due("none told", new CurveRaster().count(4), 0);
        DUE.due("none set", boxed(33, 33, 96, 96).count(4), 0);
        DUE.due("one", boxed(32, 32, 33, 33).count(4), 1);
        DUE.due("all", boxed(32, 32, 4065, 4065).count(4), 4096);
        DUE.due("all but the last column", boxed(32, 32, 4064, 4065).count(4), 4032);
        DUE.due("all but the first column", boxed(33, 32, 4065, 4065).count(4), 4032);
        DUE.due("all but the uppermost row", boxed(32, 32, 4065, 4064).count(4), 4032);
        DUE.due("all but the lowest row", boxed(32, 33, 4065, 4065).count(4), 4032);
        DUE.due("outside", boxed(-8192, -8192, 0, 0).count(4), 0);
    }

    private static void countNone() {
        DUE.about("Promise 8: NONE for another what");
        int[] others = {MIN, MIN + 1, -5, -4, -3, -2, -1, 5, 6, 7, 8, 256, 65536, MAX - 1, MAX};
        CurveRaster empty = new CurveRaster();
        CurveRaster raster = boxed(0, 0, 64, 64);
        for (int what : others) {
            DUE.due("count(" + what + ") of nothing", empty.count(what), -1);
            DUE.due("count(" + what + ")", raster.count(what), -1);
        }
        int[] counts = {1, 4, 4, 0, 1};
        for (int what = 0; what < counts.length; what++) {
            DUE.due("count(" + what + ")", raster.count(what), counts[what]);
        }
        DUE.due("NONE", CurveRaster.NONE, -1);
    }

    private static void windingOfNothing() {
        DUE.about("Promise 9: The WINDING of a point");
        CurveRaster raster = new CurveRaster();
        int[] ends = {-16384, -8193, 0, 8192, 16383};
        for (int x : ends) {
            for (int y : ends) {
                DUE.due("of nothing: winding(" + x + ", " + y + ")", raster.winding(x, y), 0);
            }
        }
    }

    private static void windingAtTheLimits() {
        DUE.about("(x, y), of whole coordinates -16384 .. 16383");
        CurveRaster raster = boxed(-8192, -8192, 8191, 8191);
        int[] values = {-16384, -16383, -8193, -8192, 0, 8190, 8191, 16382, 16383};
        for (int x : values) {
            for (int y : values) {
                int want = x >= -8192 && x <= 8190 && y >= -8192 && y <= 8190 ? 1 : 0;
                DUE.due("winding(" + x + ", " + y + ")", raster.winding(x, y), want);
            }
        }
        // x = -8192 + 16383 t t, y = -8192 + 16383 t (2 - t): at 0 t is 0.2928 and x -6786.3
        CurveRaster curve = Due.outline(-8192, -8192, 1, -8192, 8191, 0, 8191, 8191, 1, 8191, -8192, 1);
        int[] places = {-16384, -8192, -6788, -6787, -6786, 8190, 8191, 16383};
        int[] windings = {0, 0, 0, 0, 1, 1, 0, 0};
        for (int i = 0; i < places.length; i++) {
            DUE.due("curve: winding(" + places[i] + ", 0)", curve.winding(places[i], 0), windings[i]);
        }
    }

    private static void windingCoordinateIsNot() {
        DUE.about("Promise 9: IllegalArgument: a coordinate is not -16384 .. 16383");
        int[] wrong = {MIN, MIN + 16384, -65536, -32768, -16385, 16384, 32768, 65536, MAX - 16383, MAX};
        CurveRaster empty = new CurveRaster();
        CurveRaster raster = boxed(-8192, -8192, 8191, 8191);
        Class<IllegalArgumentException> due = IllegalArgumentException.class;
        for (int value : wrong) {
            DUE.refused("of nothing: winding(" + value + ", 0)", due, () -> empty.winding(value, 0));
            DUE.refused("of nothing: winding(0, " + value + ")", due, () -> empty.winding(0, value));
            DUE.refused("winding(" + value + ", 0)", due, () -> raster.winding(value, 0));
            DUE.refused("winding(0, " + value + ")", due, () -> raster.winding(0, value));
            DUE.refused("winding(" + value + ", both)", due, () -> raster.winding(value, value));
        }
    }

    private static void rowBitXIsPixelX() {
        DUE.about("Promise 10: A row of the picture: bit x is pixel x");
        for (int x = 0; x < 64; x++) {
            CurveRaster raster = boxed(64 * x, 64 * x, 64 * x + 64, 64 * x + 64);
            DUE.due("row(" + (63 - x) + ") of pixel " + x, raster.row(63 - x), 1L << x);
            DUE.due("row(" + (63 - x) + ") of pixel " + x + ", beside it", raster.row(x == 63 ? 1 : 62 - x), 0);
        }
        DUE.due("no pixel: row(0)", new CurveRaster().row(0), 0);
        CurveRaster all = boxed(0, 0, 4096, 4096);
        DUE.due("all pixels: row(0)", all.row(0), -1L);
        DUE.due("all pixels: row(63)", all.row(63), -1L);
        DUE.due("all but the first", boxed(64, 0, 4096, 4096).row(9), -2L);
        DUE.due("all but the last", boxed(0, 0, 4032, 4096).row(9), Long.MAX_VALUE);
        DUE.due("the last alone", boxed(4032, 0, 4096, 4096).row(9), Long.MIN_VALUE);
    }

    private static void rowNoneSuch() {
        DUE.about("Promise 10: IndexOutOfBounds: there is none such");
        CurveRaster empty = new CurveRaster();
        CurveRaster raster = boxed(-8192, -8192, 8191, 8191);
        for (int r : NO_INDICES) {
            DUE.refused("row(" + r + ") of nothing", IndexOutOfBoundsException.class, () -> empty.row(r));
            DUE.refused("row(" + r + ")", IndexOutOfBoundsException.class, () -> raster.row(r));
        }
    }

    private static void shareNoneSuch() {
        DUE.about("Promise 11: IndexOutOfBounds: there is none such");
        CurveRaster empty = new CurveRaster();
        CurveRaster raster = boxed(-8192, -8192, 8191, 8191);
        Class<IndexOutOfBoundsException> due = IndexOutOfBoundsException.class;
        for (int index : NO_INDICES) {
            DUE.refused("share(" + index + ", 0) of nothing", due, () -> empty.share(index, 0));
            DUE.refused("share(0, " + index + ") of nothing", due, () -> empty.share(0, index));
            DUE.refused("share(" + index + ", 63)", due, () -> raster.share(index, 63));
            DUE.refused("share(63, " + index + ")", due, () -> raster.share(63, index));
            DUE.refused("share(" + index + ", both)", due, () -> raster.share(index, index));
        }
    }

    private static void shareOfTheCorners() {
        DUE.about("Promise 11: A pixel's SHARE");
        int[] ends = {0, 63};
        CurveRaster empty = new CurveRaster();
        CurveRaster all = boxed(-8192, -8192, 8191, 8191);
        for (int x : ends) {
            for (int r : ends) {
                DUE.due("of nothing: share(" + x + ", " + r + ")", empty.share(x, r), 0);
                DUE.due("of all: share(" + x + ", " + r + ")", all.share(x, r), 16);
            }
        }
        CurveRaster corner = boxed(4056, 4072, 4096, 4096);
        DUE.due("share(63, 0)", corner.share(63, 0), 6);
        DUE.due("share(62, 0)", corner.share(62, 0), 0);
        DUE.due("share(63, 1)", corner.share(63, 1), 0);
        CurveRaster other = boxed(-100, -100, 9, 25);
        DUE.due("share(0, 63)", other.share(0, 63), 2);
        DUE.due("share(1, 63)", other.share(1, 63), 0);
        DUE.due("share(0, 62)", other.share(0, 62), 0);
    }

    /** Every other pixel of the lowest row, 32 in all, from pixel 0 or from pixel 1 on. */
    private static CurveRaster comb(int from) {
        CurveRaster raster = new CurveRaster();
        for (int x = from; x < 64; x += 2) {
            Due.box(raster, 64 * x, 0, 64 * x + 64, 64);
        }
        return raster;
    }

    private static void spansNoneAndMost() {
        DUE.about("Promise 12: How many SPANS a row has");
        DUE.due("of nothing", new CurveRaster().spans(0), 0);
        DUE.due("of nothing", new CurveRaster().spans(63), 0);
        DUE.due("a full row", boxed(0, 0, 4096, 64).spans(63), 1);
        DUE.due("the row above it", boxed(0, 0, 4096, 64).spans(62), 0);
        DUE.due("the first pixel", boxed(0, 0, 64, 64).spans(63), 1);
        DUE.due("the last pixel", boxed(4032, 0, 4096, 64).spans(63), 1);
        DUE.due("the most, with the first pixel", comb(0).spans(63), 32);
        DUE.due("the most, with the last pixel", comb(1).spans(63), 32);
        CurveRaster ends = boxed(0, 4032, 64, 4096);
        Due.box(ends, 4032, 4032, 4096, 4096);
        DUE.due("the first and the last pixel", ends.spans(0), 2);
    }

    private static void spansNoneSuch() {
        DUE.about("Promise 12: IndexOutOfBounds: there is none such");
        CurveRaster empty = new CurveRaster();
        CurveRaster raster = boxed(-8192, -8192, 8191, 8191);
        for (int r : NO_INDICES) {
            DUE.refused("spans(" + r + ") of nothing", IndexOutOfBoundsException.class, () -> empty.spans(r));
            DUE.refused("spans(" + r + ")", IndexOutOfBoundsException.class, () -> raster.spans(r));
        }
    }

    private static void spanFromTheLeft() {
        DUE.about("Promise 13: Span k of a row, from the left: where it begins");
        CurveRaster first = comb(0);
        CurveRaster last = comb(1);
        for (int k = 0; k < 32; k++) {
            DUE.due("with the first pixel: span(63, " + k + ", false)", first.span(63, k, false), 2 * k);
            DUE.due("with the last pixel: span(63, " + k + ", false)", last.span(63, k, false), 2 * k + 1);
        }
        CurveRaster raster = boxed(2048, 0, 4096, 64);
        Due.box(raster, 0, 0, 1024, 64);
        DUE.due("told from the right: span(63, 0, false)", raster.span(63, 0, false), 0);
        DUE.due("told from the right: span(63, 1, false)", raster.span(63, 1, false), 32);
    }

    private static void spanThePlaceBehind() {
        DUE.about("Promise 13: or (end) the place behind it");
        CurveRaster first = comb(0);
        CurveRaster last = comb(1);
        for (int k = 0; k < 32; k++) {
            DUE.due("with the first pixel: span(63, " + k + ", true)", first.span(63, k, true), 2 * k + 1);
            DUE.due("with the last pixel: span(63, " + k + ", true)", last.span(63, k, true), 2 * k + 2);
        }
        CurveRaster all = boxed(-8192, -8192, 8191, 8191);
        DUE.due("a full row begins", all.span(0, 0, false), 0);
        DUE.due("a full row ends", all.span(0, 0, true), 64);
        DUE.due("the lowest row ends", all.span(63, 0, true), 64);
    }

    private static void spanNoneIfNoneSuch() {
        DUE.about("Promise 13: NONE if there is none such");
        CurveRaster[] rasters = {new CurveRaster(), boxed(0, 0, 64, 64), boxed(0, 0, 4096, 64), comb(0), comb(1)};
        int[] spans = {0, 1, 1, 32, 32};
        for (int i = 0; i < rasters.length; i++) {
            int[] none = {MIN, -64, -2, -1, spans[i], spans[i] + 1, 63, 64, 65, MAX};
            for (int k : none) {
                DUE.due(i + ": span(63, " + k + ", false)", rasters[i].span(63, k, false), -1);
                DUE.due(i + ": span(63, " + k + ", true)", rasters[i].span(63, k, true), -1);
            }
            DUE.due(i + ": span(62, 0, false)", rasters[i].span(62, 0, false), -1);
            DUE.due(i + ": span(62, 0, true)", rasters[i].span(62, 0, true), -1);
        }
    }

    private static void spanNoSuchRow() {
        DUE.about("Promise 13: IndexOutOfBounds: there is no such row");
        CurveRaster empty = new CurveRaster();
        CurveRaster raster = boxed(-8192, -8192, 8191, 8191);
        Class<IndexOutOfBoundsException> due = IndexOutOfBoundsException.class;
        int[] ks = {MIN, -1, 0, 1, 64, MAX};
        for (int r : NO_INDICES) {
            for (int k : ks) {
                DUE.refused("span(" + r + ", " + k + ", false) of nothing", due, () -> empty.span(r, k, false));
                DUE.refused("span(" + r + ", " + k + ", true)", due, () -> raster.span(r, k, true));
            }
        }
    }

    /** A curve from one end to the other by a Q, in x alone, and then in y alone. */
    private static void curve(int p, int q, int r, int least, int greatest) {
        CurveRaster x = Due.outline(p, 3, 1, q, 3, 0, r, 3, 1);
        extents("x " + p + ", " + q + ", " + r, x, least, 3, greatest, 3);
        CurveRaster y = Due.outline(3, p, 1, 3, q, 0, 3, r, 1);
        extents("y " + p + ", " + q + ", " + r, y, 3, least, 3, greatest);
    }

    private static void extentNotAboveTheLeast() {
        DUE.about("Promise 14: The greatest whole number not above the least x (what = 0) or y (1)");
        // the least is P - (Q - P) (Q - P) / (P - 2 Q + R)
        curve(0, -1, 0, -1, 0);
        curve(0, -2, 0, -1, 0);
        curve(0, -3, 0, -2, 0);
        curve(0, -10, 5, -4, 5);
        curve(0, -10, 6, -4, 6);
        curve(0, -10, 4, -5, 4);
        curve(100, 99, 100, 99, 100);
        curve(100, 98, 100, 99, 100);
        curve(100, 97, 100, 98, 100);
        curve(1, 0, 1, 0, 1);
        curve(0, -1, 8191, -1, 8191);
        curve(-1, -2, 8191, -2, 8191);
    }

    private static void extentNotBelowTheGreatest() {
        DUE.about("Promise 14: the least whole number not below the greatest x (2) or y (3)");
        curve(0, 1, 0, 0, 1);
        curve(0, 2, 0, 0, 1);
        curve(0, 3, 0, 0, 2);
        curve(0, 10, -5, -5, 4);
        curve(0, 10, -6, -6, 4);
        curve(0, 10, -4, -4, 5);
        curve(-100, -99, -100, -100, -99);
        curve(-100, -98, -100, -100, -99);
        curve(-100, -97, -100, -100, -98);
        curve(-1, 0, -1, -1, 0);
        curve(0, 1, -8192, -8192, 1);
        curve(-1, 0, -8192, -8192, 0);
    }

    private static void extentOfCurvesThatDoNotTurn() {
        DUE.about("Promise 14: of all lines and curves");
        curve(0, 0, 0, 0, 0);
        curve(0, 0, 10, 0, 10);
        curve(0, 5, 10, 0, 10);
        curve(0, 9, 10, 0, 10);
        curve(0, 10, 10, 0, 10);
        curve(0, 11, 10, 0, 11);
        curve(10, 0, 0, 0, 10);
        curve(10, -1, 0, -1, 10);
        curve(10, 10, 0, 0, 10);
        curve(10, 11, 0, 0, 11);
    }

    private static void extentAtTheLimits() {
        DUE.about("Promise 14: of all lines and curves (the greatest coordinates)");
        curve(-8192, -8192, -8192, -8192, -8192);
        curve(8191, 8191, 8191, 8191, 8191);
        curve(-8192, 8191, -8192, -8192, 0);
        curve(8191, -8192, 8191, -1, 8191);
        curve(-8192, 8191, 8191, -8192, 8191);
        curve(-8192, -8192, 8191, -8192, 8191);
        curve(8191, -8192, -8191, -8192, 8191);
        curve(-8192, 8191, 8190, -8192, 8191);
    }

    private static void extentOfAllLinesAndCurves() {
        DUE.about("Promise 14: of all lines and curves");
        CurveRaster raster = Due.outline(5, 5, 1);
        extents("one", raster, 5, 5, 5, 5);
        Due.contour(raster, -8192, 0, 1);
        Due.contour(raster, 0, -8192, 0);
        Due.contour(raster, 8191, 0, 0);
        Due.contour(raster, 0, 8191, 1);
        extents("five", raster, -8192, -8192, 8191, 8191);
        CurveRaster last = new CurveRaster();
        for (int i = 0; i < 63; i++) {
            Due.contour(last, 0, 0, 1);
        }
        Due.contour(last, -1, -2, 1, 3, 4, 1);
        extents("by contour 64", last, -1, -2, 3, 4);
        last.add(8191, 8191, true);
        extents("and an open one", last, -1, -2, 3, 4);
    }

    private static void extentAnotherWhat() {
        DUE.about("Promise 14: IndexOutOfBounds: another what");
        int[] others = {MIN, -4, -2, -1, 4, 5, 6, 7, 256, MAX};
        CurveRaster raster = Due.outline(1, 2, 1, 3, 4, 1);
        for (int what : others) {
            DUE.refused("extent(" + what + ")", IndexOutOfBoundsException.class, () -> raster.extent(what));
        }
        extents("0 .. 3", raster, 1, 2, 3, 4);
    }

    private static void extentNoContours() {
        DUE.about("Promise 14: IllegalState: there are no contours");
        CurveRaster raster = new CurveRaster();
        noExtents("new", raster);
        raster.add(1, 1, true);
        noExtents("open", raster);
        raster.close();
        extents("closed", raster, 1, 1, 1, 1);
        raster.clear();
        noExtents("cleared", raster);
        raster.add(1, 1, true);
        raster.drop();
        noExtents("dropped", raster);
    }

    private static void noExtents(String text, CurveRaster raster) {
        for (int side = 0; side < 4; side++) {
            int what = side;
            DUE.refused(text + ": extent(" + what + ")", IllegalStateException.class, () -> raster.extent(what));
        }
    }

    private static void extentFirstExceptionWins() {
        DUE.about("where it lists more than one exception, the first one wins");
        int[] others = {MIN, -1, 4, MAX};
        CurveRaster raster = new CurveRaster();
        for (int what : others) {
            DUE.refused("new: extent(" + what + ")", IndexOutOfBoundsException.class, () -> raster.extent(what));
        }
        raster.add(1, 1, true);
        for (int what : others) {
            DUE.refused("open: extent(" + what + ")", IndexOutOfBoundsException.class, () -> raster.extent(what));
        }
    }
}
