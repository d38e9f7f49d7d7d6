/** Promise 9: winding. */
public final class WindingTest {
    private static final Due DUE = new Due();

    public static void main(String[] args) {
        refuses();
        linesAtTheirEdges();
        slantedLine();
        levelAndSingle();
        curveThatTouches();
        curveThroughItsEnds();
        curveThatIsLevelInTime();
        curveOfOneEnd();
        irrationalPlaces();
        halfWaysAreRoundedDown();
        manyContours();
        DUE.end("WindingTest");
    }

    private static void winding(String text, CurveRaster raster, int x, int y, int want) {
        DUE.due(text + ": winding(" + x + ", " + y + ")", raster.winding(x, y), want);
    }

    private static void refuses() {
        CurveRaster raster = Due.outline(-8192, -8192, 1, -8192, 8191, 1, 8191, 8191, 1, 8191, -8192, 1);
        int[] wrong = {-16385, 16384, Integer.MIN_VALUE, Integer.MAX_VALUE};
        for (int value : wrong) {
            DUE.refused("winding(" + value + ", 0)", IllegalArgumentException.class, () -> raster.winding(value, 0));
            DUE.refused("winding(0, " + value + ")", IllegalArgumentException.class, () -> raster.winding(0, value));
        }
        winding("greatest box", raster, -16384, -16384, 0);
        winding("greatest box", raster, 16383, 16383, 0);
        winding("greatest box", raster, 16383, 0, 0);
        winding("greatest box", raster, -16384, 0, 0);
        winding("greatest box", raster, -8193, 0, 0);
        winding("greatest box", raster, -8192, -8192, 1);
        winding("greatest box", raster, 8190, 8190, 1);
        winding("greatest box", raster, 8191, 0, 0);
        winding("greatest box", raster, 0, 8191, 0);
    }

    private static void linesAtTheirEdges() {
        CurveRaster raster = new CurveRaster();
        Due.box(raster, 10, 20, 30, 40);
        winding("box", raster, 10, 20, 1);
        winding("box", raster, 9, 20, 0);
        winding("box", raster, 29, 39, 1);
        winding("box", raster, 30, 39, 0);
        winding("box", raster, 10, 40, 0);
        winding("box", raster, 10, 19, 0);
    }

    /** x = y / 3 on the left, upwards. */
    private static void slantedLine() {
        CurveRaster raster = Due.outline(0, 0, 1, 10, 30, 1, 100, 30, 1, 100, 0, 1);
        winding("slanted", raster, 3, 9, 1);
        winding("slanted", raster, 2, 9, 0);
        winding("slanted", raster, 3, 10, 0);
        winding("slanted", raster, 4, 10, 1);
        winding("slanted", raster, 3, 8, 1);
        CurveRaster below = Due.outline(0, 0, 1, -10, 30, 1, 100, 30, 1, 100, 0, 1);
        winding("slanted to the left", below, -4, 10, 0);
        winding("slanted to the left", below, -3, 10, 1);
    }

    private static void levelAndSingle() {
        winding("one point", Due.outline(5, 5, 1), 5, 5, 0);
        winding("one point not on", Due.outline(5, 5, 0), 5, 5, 0);
        CurveRaster level = Due.outline(0, 5, 1, 10, 5, 1);
        winding("level line", level, 5, 5, 0);
        winding("level line", level, 5, 4, 0);
        CurveRaster upAndDown = Due.outline(0, 0, 1, 0, 9, 1);
        winding("up and down the same line", upAndDown, 0, 5, 0);
        winding("up and down the same line", upAndDown, 3, 5, 0);
    }

    /** From (0, 8) down to (4, 4) and up to (8, 8); and its mirror. Closed by a level line. */
    private static void curveThatTouches() {
        CurveRaster low = Due.outline(0, 8, 1, 4, 0, 0, 8, 8, 1);
        winding("touches from above", low, 4, 4, 0);
        winding("touches from above", low, 3, 4, 0);
        winding("touches from above", low, 8, 4, 0);
        winding("touches from above", low, 4, 3, 0);
        winding("touches from above", low, 4, 5, -1);
        winding("touches from above", low, 2, 5, -1);
        winding("touches from above", low, 1, 5, 0);
        winding("touches from above", low, 6, 5, 0);
        winding("touches from above", low, 5, 5, -1);
        winding("the level line's height", low, 4, 8, 0);
        winding("just below the level line", low, 1, 7, -1);
        CurveRaster high = Due.outline(0, 0, 1, 4, 8, 0, 8, 0, 1);
        winding("touches from below", high, 4, 4, 0);
        winding("touches from below", high, 4, 3, 1);
        winding("touches from below", high, 2, 3, 1);
        winding("touches from below", high, 1, 3, 0);
        winding("touches from below", high, 6, 3, 0);
        winding("begins and ends at the height", high, 0, 0, 1);
        winding("begins and ends at the height", high, 7, 0, 1);
        winding("begins and ends at the height", high, 8, 0, 0);
        winding("begins and ends at the height", high, -1, 0, 0);
    }

    /** One that starts at the height, dips, and comes up through it at (8, 0). */
    private static void curveThroughItsEnds() {
        CurveRaster raster = Due.outline(0, 0, 1, 6, -4, 0, 12, 4, 1, 12, 100, 1, 0, 100, 1);
        // y = 12 t t - 8 t, at 0 for t = 2 / 3, x = 12 t = 8; the left edge comes down at x = 0
        winding("dips first", raster, 8, 0, 0);
        winding("dips first", raster, 7, 0, -1);
        winding("dips first", raster, 0, 0, -1);
        winding("dips first", raster, -1, 0, 0);
        // at -1: t = 1 / 6 and 1 / 2, x = 2 and 6
        winding("dips first", raster, 1, -1, 0);
        winding("dips first", raster, 2, -1, -1);
        winding("dips first", raster, 5, -1, -1);
        winding("dips first", raster, 6, -1, 0);
        CurveRaster flat = Due.outline(0, 0, 1, 5, 0, 0, 10, 7, 1, 0, 7, 1);
        winding("leaves its height with no slope", flat, 0, 0, 0);
        winding("leaves its height with no slope", flat, -1, 0, 0);
        winding("leaves its height with no slope", flat, 4, 1, 0);
        winding("leaves its height with no slope", flat, 3, 1, -1);
    }

    /** Where y grows evenly with t, and x does not. */
    private static void curveThatIsLevelInTime() {
        CurveRaster raster = Due.outline(0, 0, 1, 16, 8, 0, 0, 16, 1);
        // x = 32 t (1 - t), y = 16 t: at 4, x = 6; at 8, x = 8; the line down the left stands at 0
        winding("even in y", raster, 5, 4, -1);
        winding("even in y", raster, 6, 4, 0);
        winding("even in y", raster, 7, 8, -1);
        winding("even in y", raster, 8, 8, 0);
        // at 5, x = 6.875
        winding("even in y", raster, 6, 5, -1);
        winding("even in y", raster, 7, 5, 0);
        winding("even in y", raster, -1, 5, 0);
    }

    /** P and R the same: there and back on the same way. */
    private static void curveOfOneEnd() {
        CurveRaster raster = Due.outline(0, 0, 1, 20, 40, 0);
        winding("there and back", raster, 5, 10, 0);
        winding("there and back", raster, 100, 10, 0);
        winding("there and back", raster, 4, 10, 0);
    }

    private static void irrationalPlaces() {
        // x = 1000 t, y = 1000 t t: at y, x is the root of 1000 y
        CurveRaster raster = Due.outline(0, 0, 1, 500, 0, 0, 1000, 1000, 1, 8000, 1000, 1, 8000, 0, 1);
        winding("root of 2000", raster, 44, 2, 0);
        winding("root of 2000", raster, 45, 2, 1);
        winding("root of 10000", raster, 99, 10, 0);
        winding("root of 10000", raster, 100, 10, 1);
        winding("root of 999000", raster, 999, 999, 0);
        winding("root of 999000", raster, 1000, 999, 1);
        winding("root of 0", raster, -1, 0, 0);
        winding("root of 0", raster, 0, 0, 1);
    }

    private static void halfWaysAreRoundedDown() {
        CurveRaster raster = Due.outline(-3, -3, 0, 0, 0, 0, 100, -3, 0);
        // put in: (-2, -2), (50, -2), (48, -3); the curve by (0, 0) goes from the first to the second
        winding("half-way", raster, -3, -2, 0);
        winding("half-way", raster, -2, -2, 1);
        winding("half-way", raster, 49, -2, 1);
        winding("half-way", raster, 50, -2, 0);
    }

    private static void manyContours() {
        CurveRaster raster = new CurveRaster();
        for (int i = 0; i < 64; i++) {
            Due.box(raster, i, i, 1000 - i, 1000 - i);
        }
        winding("64 boxes", raster, 500, 500, 64);
        winding("64 boxes", raster, 10, 500, 11);
        winding("64 boxes", raster, 990, 500, 10);
        CurveRaster bothWays = new CurveRaster();
        for (int i = 0; i < 32; i++) {
            Due.box(bothWays, 0, 0, 100, 100);
            Due.contour(bothWays, 0, 0, 1, 100, 0, 1, 100, 100, 1, 0, 100, 1);
        }
        winding("32 each way", bothWays, 50, 50, 0);
    }
}
