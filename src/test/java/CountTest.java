/** Promises 7 and 8: parity and count. */
public final class CountTest {
    private static final Due DUE = new Due();

    public static void main(String[] args) {
        parityTellsWhatItWas();
        parityDecidesWhatIsIn();
        ringsOfOne();
        ringsOfTwo();
        longerRings();
        pixels();
        otherCounts();
        DUE.end("CountTest");
    }

    private static void parityTellsWhatItWas() {
        CurveRaster raster = new CurveRaster();
        DUE.due("parity(false)", raster.parity(false), false);
        DUE.due("parity(true)", raster.parity(true), false);
        DUE.due("parity(true) again", raster.parity(true), true);
        DUE.due("parity(false) back", raster.parity(false), true);
        DUE.due("parity(false) again", raster.parity(false), false);
    }

    /** Three boxes in one another, all of the same sense: windings 1, 2 and 3. */
    private static void parityDecidesWhatIsIn() {
        CurveRaster raster = new CurveRaster();
        Due.box(raster, 0, 0, 640, 640);
        Due.box(raster, 128, 128, 512, 512);
        Due.box(raster, 256, 256, 384, 384);
        DUE.due("pixels by winding", raster.count(4), 100);
        DUE.due("share of a pixel wound twice", raster.share(2, 59), 16);
        raster.parity(true);
        DUE.due("pixels by parity", raster.count(4), 100 - 36 + 4);
        DUE.due("row by parity", raster.row(59), 0b1100110011);
        DUE.due("spans by parity", raster.spans(59), 3);
        DUE.due("share by parity", raster.share(2, 59), 0);
        DUE.due("share by parity, wound thrice", raster.share(4, 59), 16);
        DUE.due("winding is no matter of parity", raster.winding(150, 150), 2);
        raster.parity(false);
        DUE.due("pixels by winding again", raster.count(4), 100);
        CurveRaster down = Due.outline(0, 0, 1, 64, 0, 1, 64, 64, 1, 0, 64, 1);
        DUE.due("winding below 0", down.winding(32, 32), -1);
        DUE.due("set by winding", down.row(63), 1);
        down.parity(true);
        DUE.due("set by parity", down.row(63), 1);
    }

    private static void counts(String outline, CurveRaster raster, int lines, int curves) {
        DUE.due(outline + ": lines", raster.count(2), lines);
        DUE.due(outline + ": curves", raster.count(3), curves);
    }

    private static void ringsOfOne() {
        counts("one on", Due.outline(3, 4, 1), 1, 0);
        counts("one not on", Due.outline(3, 4, 0), 0, 1);
    }

    private static void ringsOfTwo() {
        counts("two on", Due.outline(0, 0, 1, 9, 9, 1), 2, 0);
        counts("on, not", Due.outline(0, 0, 1, 9, 9, 0), 0, 1);
        counts("not, on", Due.outline(0, 0, 0, 9, 9, 1), 0, 1);
        counts("two not on", Due.outline(0, 0, 0, 9, 9, 0), 0, 2);
    }

    private static void longerRings() {
        CurveRaster raster = Due.outline(0, 0, 0, 9, 0, 1, 9, 9, 1, 0, 9, 0);
        counts("not, on, on, not", raster, 1, 2);
        Due.contour(raster, 0, 0, 1, 5, 0, 1, 5, 5, 1);
        counts("and three on", raster, 4, 2);
        Due.contour(raster, 0, 0, 1, 5, 0, 0, 5, 5, 0, 0, 5, 0);
        counts("and on, three not", raster, 4, 5);
        Due.contour(raster, 7, 7, 0);
        Due.contour(raster, 7, 7, 1);
        counts("and one of each alone", raster, 5, 6);
        DUE.due("contours", raster.count(0), 5);
        DUE.due("points, those put in half-way not counted", raster.count(1), 13);
        raster.add(0, 0, false);
        DUE.due("points, the open contour's too", raster.count(1), 14);
        DUE.due("contours, not the open one", raster.count(0), 5);
        counts("not the open one's", raster, 5, 6);
    }

    private static void pixels() {
        CurveRaster raster = new CurveRaster();
        Due.box(raster, -100, -100, 5000, 5000);
        DUE.due("all pixels", raster.count(4), 4096);
        DUE.due("a row of all", raster.row(0), -1L);
        raster.clear();
        Due.box(raster, 32, 32, 96, 96);
        DUE.due("a box from middle to middle has its left and lower edge", raster.count(4), 1);
        DUE.due("and that is pixel 0 of the lowest row", raster.row(63), 1);
        raster.clear();
        Due.box(raster, 33, 31, 97, 95);
        DUE.due("the next pixel to the right", raster.row(63), 2);
    }

    private static void otherCounts() {
        CurveRaster raster = Due.outline(0, 0, 1, 9, 9, 1);
        int[] others = {-1, 5, 6, 64, Integer.MIN_VALUE, Integer.MAX_VALUE};
        for (int what : others) {
            DUE.due("count(" + what + ")", raster.count(what), CurveRaster.NONE);
        }
    }
}
