/** Promises 1 to 5: a new object, add, close, drop, clear. */
public final class ContoursTest {
    private static final Due DUE = new Due();

    public static void main(String[] args) {
        newObject();
        addTellsTheOpenContour();
        addRefuses();
        addRefusesTheFirstReasonFirst();
        closeCounts();
        closeRefuses();
        dropLeavesTheClosed();
        clearTakesAll();
        openPointsAreNotSeen();
        DUE.end("ContoursTest");
    }

    private static void newObject() {
        CurveRaster raster = new CurveRaster();
        for (int what = 0; what <= 4; what++) {
            DUE.due("new: count(" + what + ")", raster.count(what), 0);
        }
        for (int r = 0; r < 64; r++) {
            DUE.due("new: row(" + r + ")", raster.row(r), 0);
        }
        DUE.due("new: winding(0, 0)", raster.winding(0, 0), 0);
        DUE.due("new: drop()", raster.drop(), 0);
        DUE.due("new: clear()", raster.clear(), 0);
        DUE.refused("new: extent(0)", IllegalStateException.class, () -> raster.extent(0));
        DUE.refused("new: close()", IllegalStateException.class, raster::close);
        DUE.due("new: parity(true)", raster.parity(true), false);
        DUE.due("another: parity(false)", new CurveRaster().parity(false), false);
    }

    private static void addTellsTheOpenContour() {
        CurveRaster raster = new CurveRaster();
        DUE.due("add, first", raster.add(-8192, 8191, true), 1);
        DUE.due("add, second", raster.add(8191, -8192, false), 2);
        DUE.due("add, third, the same point", raster.add(8191, -8192, false), 3);
        raster.close();
        DUE.due("add, first of the next contour", raster.add(0, 0, true), 1);
        DUE.due("points of both", raster.count(1), 4);
    }

    private static void addRefuses() {
        CurveRaster raster = new CurveRaster();
        int[] wrong = {-8193, 8192, 16384, Integer.MIN_VALUE, Integer.MAX_VALUE};
        for (int value : wrong) {
            DUE.refused("add(" + value + ", 0)", IllegalArgumentException.class, () -> raster.add(value, 0, true));
            DUE.refused("add(0, " + value + ")", IllegalArgumentException.class, () -> raster.add(0, value, false));
        }
        DUE.due("points after refused ones", raster.count(1), 0);
        DUE.due("add after refused ones", raster.add(1, 1, true), 1);
    }

    private static void addRefusesTheFirstReasonFirst() {
        CurveRaster raster = new CurveRaster();
        Due.box(raster, 0, 0, 64, 64);
        for (int i = 4; i < 512; i++) {
            DUE.due("add, point " + (i + 1) + " of all", raster.add(i, -i, true), i - 3);
        }
        DUE.refused("add, point 513", IllegalStateException.class, () -> raster.add(0, 0, true));
        DUE.refused("add, point 513 and wrong", IllegalArgumentException.class, () -> raster.add(8192, 0, true));
        DUE.due("points", raster.count(1), 512);
        DUE.due("close with 508 points", raster.close(), 2);
        DUE.due("lines of 512 points", raster.count(2), 512);
        DUE.refused("add, point 513, all closed", IllegalStateException.class, () -> raster.add(0, 0, false));
        DUE.due("clear", raster.clear(), 2);
        DUE.due("add after clear", raster.add(0, 0, false), 1);
    }

    private static void closeCounts() {
        CurveRaster raster = new CurveRaster();
        for (int i = 1; i <= 64; i++) {
            raster.add(i, i, i % 2 == 0);
            DUE.due("close, contour " + i, raster.close(), i);
        }
        DUE.due("contours", raster.count(0), 64);
        raster.add(7, 7, true);
        DUE.refused("close, contour 65", IllegalStateException.class, raster::close);
        DUE.due("contours still", raster.count(0), 64);
        DUE.due("add goes on in the open contour", raster.add(8, 8, true), 2);
        DUE.due("drop of what could not be closed", raster.drop(), 2);
    }

    private static void closeRefuses() {
        CurveRaster raster = new CurveRaster();
        DUE.refused("close, no points", IllegalStateException.class, raster::close);
        raster.add(0, 0, true);
        DUE.due("close, one point", raster.close(), 1);
        DUE.refused("close again", IllegalStateException.class, raster::close);
        DUE.due("contours", raster.count(0), 1);
    }

    private static void dropLeavesTheClosed() {
        CurveRaster raster = new CurveRaster();
        Due.box(raster, 0, 0, 128, 128);
        Due.points(raster, 5, 5, 1, 6, 6, 0);
        DUE.due("drop", raster.drop(), 2);
        DUE.due("drop again", raster.drop(), 0);
        DUE.due("points after drop", raster.count(1), 4);
        DUE.due("contours after drop", raster.count(0), 1);
        DUE.due("pixels after drop", raster.count(4), 4);
        DUE.refused("close after drop", IllegalStateException.class, raster::close);
        DUE.due("add after drop", raster.add(1, 1, true), 1);
    }

    private static void clearTakesAll() {
        CurveRaster raster = new CurveRaster();
        Due.box(raster, 0, 0, 128, 128);
        Due.box(raster, 256, 256, 512, 512);
        raster.add(5, 5, true);
        raster.parity(true);
        DUE.due("clear", raster.clear(), 2);
        for (int what = 0; what <= 4; what++) {
            DUE.due("cleared: count(" + what + ")", raster.count(what), 0);
        }
        DUE.due("cleared: drop()", raster.drop(), 0);
        DUE.due("cleared: winding(32, 32)", raster.winding(32, 32), 0);
        DUE.refused("cleared: extent(0)", IllegalStateException.class, () -> raster.extent(0));
        raster.move(9000, 9000);
        DUE.due("cleared: add", raster.add(10, 20, true), 1);
        DUE.due("cleared: close", raster.close(), 1);
        DUE.due("cleared: lines of the new contour alone", raster.count(2), 1);
        DUE.due("cleared: extent(2)", raster.extent(2), 10);
        DUE.due("clear leaves PARITY", raster.parity(false), true);
    }

    private static void openPointsAreNotSeen() {
        CurveRaster raster = new CurveRaster();
        Due.box(raster, 0, 0, 64, 64);
        Due.points(raster, 2048, 0, 1, 2048, 4096, 1, 4096, 4096, 1, 4096, 0, 0);
        DUE.due("open: contours", raster.count(0), 1);
        DUE.due("open: points", raster.count(1), 8);
        DUE.due("open: lines", raster.count(2), 4);
        DUE.due("open: curves", raster.count(3), 0);
        DUE.due("open: pixels", raster.count(4), 1);
        DUE.due("open: winding", raster.winding(2100, 1000), 0);
        DUE.due("open: row", raster.row(63), 1);
        DUE.due("open: row above", raster.row(62), 0);
        DUE.due("open: share", raster.share(40, 40), 0);
        DUE.due("open: spans", raster.spans(63), 1);
        DUE.due("open: span", raster.span(63, 1, false), -1);
        DUE.due("open: extent", raster.extent(2), 64);
        raster.close();
        DUE.due("closed: lines", raster.count(2), 6);
        DUE.due("closed: curves", raster.count(3), 1);
        DUE.due("closed: winding", raster.winding(2100, 1000), 1);
        DUE.due("closed: share", raster.share(40, 40), 16);
        DUE.due("closed: extent", raster.extent(2), 4096);
    }
}
