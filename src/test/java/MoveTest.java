/** Promise 6: move. */
public final class MoveTest {
    private static final Due DUE = new Due();

    public static void main(String[] args) {
        movesAllThatIsClosed();
        movesTheOpenContour();
        refusesAndLeavesAll();
        refusesBySinglePoints();
        refusesByEachCoordinate();
        movesAsManyAsThereCanBe();
        keepsTheHalfWays();
        anythingGoesWithoutPoints();
        DUE.end("MoveTest");
    }

    private static void movesAllThatIsClosed() {
        CurveRaster raster = new CurveRaster();
        Due.box(raster, 0, 0, 128, 128);
        Due.contour(raster, 640, 640, 1, 704, 768, 0, 768, 640, 1);
        raster.move(64, -64);
        DUE.due("row(63) of the box moved", raster.row(63), 6);
        DUE.due("row(62) of the box moved", raster.row(62), 0);
        DUE.due("winding of the curve's middle", raster.winding(768, 600), 1);
        DUE.due("winding where the curve was", raster.winding(704, 641), 0);
        int[] extents = {64, -64, 832, 640};
        for (int what = 0; what < 4; what++) {
            DUE.due("extent(" + what + ")", raster.extent(what), extents[what]);
        }
        raster.move(0, 64);
        DUE.due("row(63) back up", raster.row(63), 6);
        raster.move(-64, 0);
        DUE.due("row(62) back left", raster.row(62), 3);
        raster.move(0, 0);
        DUE.due("row(62) not moved", raster.row(62), 3);
    }

    private static void movesTheOpenContour() {
        CurveRaster raster = new CurveRaster();
        Due.points(raster, 0, 0, 1, 0, 64, 1);
        raster.move(64, 64);
        Due.contour(raster, 128, 128, 1, 128, 64, 1);
        DUE.due("row(62)", raster.row(62), 2);
        DUE.due("pixels", raster.count(4), 1);
        DUE.due("extent(0)", raster.extent(0), 64);
        DUE.due("extent(1)", raster.extent(1), 64);
    }

    private static void refusesAndLeavesAll() {
        CurveRaster raster = new CurveRaster();
        Due.contour(raster, 8000, 10, 1, 20, 8000, 1, 20, 10, 0);
        raster.add(-8000, -8000, false);
        DUE.refusedMove(raster, 192, 0);
        DUE.refusedMove(raster, 0, 192);
        DUE.refusedMove(raster, -193, 0);
        DUE.refusedMove(raster, 0, -193);
        DUE.refusedMove(raster, 100, 192);
        DUE.refusedMove(raster, Integer.MAX_VALUE, 0);
        DUE.refusedMove(raster, Integer.MIN_VALUE, 0);
        DUE.refusedMove(raster, 0, Integer.MAX_VALUE);
        DUE.refusedMove(raster, 0, Integer.MIN_VALUE);
        DUE.due("extent(2) as it was", raster.extent(2), 8000);
        DUE.due("extent(3) as it was", raster.extent(3), 8000);
        raster.move(191, 191);
        DUE.due("extent(2) at the edge", raster.extent(2), 8191);
        DUE.due("extent(3) at the edge", raster.extent(3), 8191);
        raster.move(-383, -383);
        DUE.due("extent(2) at the other edge, by the open contour", raster.extent(2), 7808);
        DUE.refusedMove(raster, 0, -1);
        raster.drop();
        raster.move(0, -1);
        DUE.due("extent(3), the open contour dropped", raster.extent(3), 7807);
    }

    /** The point that is in the way is not on, and no line or curve comes as far. */
    private static void refusesBySinglePoints() {
        CurveRaster raster = Due.outline(0, 0, 1, 50, 8100, 0, 100, 0, 1);
        DUE.due("extent(3)", raster.extent(3), 4050);
        DUE.refusedMove(raster, 0, 92);
        raster.move(0, 91);
        DUE.due("extent(3) moved", raster.extent(3), 4141);
    }

    private static void refusesByEachCoordinate() {
        CurveRaster wide = Due.outline(-8000, 0, 1, 8000, 5, 1);
        DUE.refusedMove(wide, 192, 0);
        DUE.refusedMove(wide, -193, 0);
        wide.move(100, 1000);
        DUE.due("wide: extent(2)", wide.extent(2), 8100);
        DUE.due("wide: extent(3)", wide.extent(3), 1005);
        CurveRaster high = Due.outline(0, -8000, 1, 5, 8000, 1);
        DUE.refusedMove(high, 0, 192);
        DUE.refusedMove(high, 0, -193);
        high.move(1000, 100);
        DUE.due("high: extent(2)", high.extent(2), 1005);
        DUE.due("high: extent(3)", high.extent(3), 8100);
    }

    private static void movesAsManyAsThereCanBe() {
        CurveRaster raster = new CurveRaster();
        for (int i = 0; i < 512; i++) {
            raster.add(i, 2 * i, i % 3 == 0);
        }
        raster.move(1, 2);
        raster.close();
        raster.move(10, 20);
        // the last point is not on: the curve by it turns just beyond the one before it, (510, 1020), moved
        DUE.due("512 points: extent(0)", raster.extent(0), 11);
        DUE.due("512 points: extent(2)", raster.extent(2), 522);
        DUE.due("512 points: extent(3)", raster.extent(3), 1043);
        DUE.due("512 points: curves", raster.count(3), 341);
        DUE.due("512 points: pixels", raster.count(4), 0);
    }

    private static void keepsTheHalfWays() {
        CurveRaster raster = Due.outline(0, 0, 0, 1, 1, 0);
        raster.move(-5, -5);
        DUE.due("curves", raster.count(3), 2);
        DUE.due("extent(0)", raster.extent(0), -5);
        DUE.due("extent(2)", raster.extent(2), -4);
    }

    private static void anythingGoesWithoutPoints() {
        CurveRaster raster = new CurveRaster();
        raster.move(Integer.MAX_VALUE, Integer.MIN_VALUE);
        DUE.due("points", raster.count(1), 0);
        Due.box(raster, 0, 0, 64, 64);
        DUE.due("what is told later is not moved", raster.row(63), 1);
    }
}
