/** Promise 14: extent. */
public final class ExtentTest {
    private static final Due DUE = new Due();

    public static void main(String[] args) {
        refuses();
        linesAndPoints();
        curvesThatTurn();
        curvesThatDoNotTurn();
        roundedOutwards();
        wholeTurns();
        halfWays();
        allContours();
        greatest();
        DUE.end("ExtentTest");
    }

    private static void extents(String outline, CurveRaster raster, int... want) {
        for (int what = 0; what < 4; what++) {
            DUE.due(outline + ": extent(" + what + ")", raster.extent(what), want[what]);
        }
    }

    private static void refuses() {
        CurveRaster raster = new CurveRaster();
        int[] wrong = {-1, 4, Integer.MIN_VALUE, Integer.MAX_VALUE};
        for (int what : wrong) {
            DUE.refused("extent(" + what + ") of none", IndexOutOfBoundsException.class, () -> raster.extent(what));
        }
        for (int side = 0; side < 4; side++) {
            int what = side;
            DUE.refused("extent(" + what + ") of none", IllegalStateException.class, () -> raster.extent(what));
        }
        raster.add(1, 1, true);
        DUE.refused("extent(0), one open", IllegalStateException.class, () -> raster.extent(0));
        raster.close();
        for (int what : wrong) {
            DUE.refused("extent(" + what + ")", IndexOutOfBoundsException.class, () -> raster.extent(what));
        }
        DUE.due("extent(0)", raster.extent(0), 1);
    }

    private static void linesAndPoints() {
        extents("one on", Due.outline(-7, 9, 1), -7, 9, -7, 9);
        extents("one not on", Due.outline(-7, 9, 0), -7, 9, -7, 9);
        extents("lines", Due.outline(-7, 9, 1, 12, -100, 1, 3, 200, 1), -7, -100, 12, 200);
    }

    private static void curvesThatTurn() {
        extents("up", Due.outline(0, 0, 1, 50, 100, 0, 100, 0, 1), 0, 0, 100, 50);
        extents("down", Due.outline(0, 0, 1, 50, -100, 0, 100, 0, 1), 0, -50, 100, 0);
        extents("left", Due.outline(0, 0, 1, -100, 50, 0, 0, 100, 1), -50, 0, 0, 100);
        extents("right", Due.outline(0, 0, 1, 100, 50, 0, 0, 100, 1), 0, 0, 50, 100);
    }

    private static void curvesThatDoNotTurn() {
        extents("corner", Due.outline(0, 0, 1, 100, 0, 0, 100, 100, 1), 0, 0, 100, 100);
        extents("between", Due.outline(0, 0, 1, 20, 70, 0, 100, 100, 1), 0, 0, 100, 100);
        extents("Q on P", Due.outline(0, 0, 1, 0, 0, 0, 100, 100, 1), 0, 0, 100, 100);
    }

    private static void roundedOutwards() {
        // y = -2 t (1 - t) ..: least -0.5; greatest 0.5
        extents("down by a half", Due.outline(0, 0, 1, 1, -1, 0, 2, 0, 1), 0, -1, 2, 0);
        extents("up by a half", Due.outline(0, 0, 1, 1, 1, 0, 2, 0, 1), 0, 0, 2, 1);
        // P 0, Q -10, R 5: least -100 / 25 = -4; R 6: -100 / 26, above -4
        extents("whole", Due.outline(0, 0, 1, -10, -10, 0, 5, 6, 1), -4, -4, 5, 6);
        // R 4: -100 / 24 = -4.17
        extents("below", Due.outline(0, 0, 1, -10, 10, 0, 4, -4, 1), -5, -4, 4, 5);
        extents("not at 0", Due.outline(100, -100, 1, 90, -90, 0, 104, -104, 1), 95, -104, 104, -95);
    }

    private static void wholeTurns() {
        extents("whole below 0", Due.outline(-10, -10, 1, -14, -14, 0, -10, -10, 1, -10, -10, 1), -12, -12, -10, -10);
        extents("whole above 0", Due.outline(10, 10, 1, 14, 14, 0, 10, 10, 1), 10, 10, 12, 12);
    }

    private static void halfWays() {
        // put in: -2 for -3 and 0; the curves turn half-way between that and the points
        extents("two not on, below 0", Due.outline(-3, -3, 0, 0, 0, 0), -3, -3, -1, -1);
        // put in: 1 for 0 and 3
        extents("two not on, above 0", Due.outline(0, 0, 0, 3, 3, 0), 0, 0, 2, 2);
    }

    private static void allContours() {
        CurveRaster raster = Due.outline(0, 0, 1, 10, 10, 1);
        Due.contour(raster, -50, 5, 1);
        Due.contour(raster, 5, 70, 1);
        Due.contour(raster, 30, -20, 0);
        extents("four contours", raster, -50, -20, 30, 70);
        raster.add(1000, 1000, true);
        extents("and an open one", raster, -50, -20, 30, 70);
    }

    private static void greatest() {
        CurveRaster raster = Due.outline(-8192, -8192, 1, 8191, 8191, 0, -8192, -8192, 1);
        extents("to the other corner and back", raster, -8192, -8192, 0, 0);
        raster = Due.outline(8191, 8191, 1, -8192, -8192, 0);
        extents("the other way", raster, -1, -1, 8191, 8191);
        raster = Due.outline(-8192, 8191, 1, 8191, 8191, 1, 8191, -8192, 1, -8192, -8192, 1);
        extents("all", raster, -8192, -8192, 8191, 8191);
    }
}
