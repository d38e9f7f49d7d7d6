/** The boundary cases of promises 1 to 7, the calls that change an outline: a test for each sentence. */
public final class ChangeEdgesTest {
    private static final Due DUE = new Due();
    private static final int MIN = Integer.MIN_VALUE;
    private static final int MAX = Integer.MAX_VALUE;

    public static void main(String[] args) {
        DUE.part(ChangeEdgesTest::newNothing);
        DUE.part(ChangeEdgesTest::newNotByParity);
        DUE.part(ChangeEdgesTest::addHowMany);
        DUE.part(ChangeEdgesTest::addCoordinateIsNot);
        DUE.part(ChangeEdgesTest::addThereAre512);
        DUE.part(ChangeEdgesTest::addFirstExceptionWins);
        DUE.part(ChangeEdgesTest::closeHowMany);
        DUE.part(ChangeEdgesTest::closeNoPoints);
        DUE.part(ChangeEdgesTest::closeThereAre64);
        DUE.part(ChangeEdgesTest::closeNeither);
        DUE.part(ChangeEdgesTest::dropPointsAreGone);
        DUE.part(ChangeEdgesTest::dropHowMany);
        DUE.part(ChangeEdgesTest::clearAllAreGone);
        DUE.part(ChangeEdgesTest::clearHowMany);
        DUE.part(ChangeEdgesTest::clearMakesRoom);
        DUE.part(ChangeEdgesTest::moveAllPoints);
        DUE.part(ChangeEdgesTest::moveToTheLimits);
        DUE.part(ChangeEdgesTest::moveWouldNotBe);
        DUE.part(ChangeEdgesTest::moveByPointsNotSeen);
        DUE.part(ChangeEdgesTest::moveSumsBeyondAnInt);
        DUE.part(ChangeEdgesTest::moveNoPoints);
        DUE.part(ChangeEdgesTest::parityFromNowOn);
        DUE.part(ChangeEdgesTest::parityWhetherItWas);
        DUE.end("ChangeEdgesTest");
    }

    private static void extents(String text, CurveRaster raster, int... want) {
        for (int what = 0; what < 4; what++) {
            DUE.due(text + ": extent(" + what + ")", raster.extent(what), want[what]);
        }
    }

    /** Contours of one point each. */
    private static CurveRaster contours(int many) {
        CurveRaster raster = new CurveRaster();
        for (int i = 0; i < many; i++) {
            Due.contour(raster, i, -i, i % 2);
        }
        return raster;
    }

    /** A box of one contour, and then open points, as many as make so many in all. */
    private static CurveRaster points(int many) {
        CurveRaster raster = new CurveRaster();
        Due.box(raster, 0, 0, 64, 64);
        for (int i = 4; i < many; i++) {
            raster.add(i, -i, i % 2 == 0);
        }
        return raster;
    }

    private static void newNothing() {
        DUE.about("Promise 1: No contours, no points");
        CurveRaster raster = new CurveRaster();
        for (int what = 0; what <= 4; what++) {
            DUE.due("count(" + what + ")", raster.count(what), 0);
        }
        for (int i = 0; i < 64; i++) {
            DUE.due("row(" + i + ")", raster.row(i), 0);
            DUE.due("spans(" + i + ")", raster.spans(i), 0);
            DUE.due("span(" + i + ", 0, true)", raster.span(i, 0, true), CurveRaster.NONE);
            DUE.due("share(" + i + ", " + i + ")", raster.share(i, i), 0);
        }
        DUE.due("winding(0, 0)", raster.winding(0, 0), 0);
        DUE.due("winding(-16384, 16383)", raster.winding(-16384, 16383), 0);
        for (int side = 0; side < 4; side++) {
            int what = side;
            DUE.refused("extent(" + what + ")", IllegalStateException.class, () -> raster.extent(what));
        }
        DUE.refused("close()", IllegalStateException.class, raster::close);
        DUE.due("drop()", raster.drop(), 0);
        DUE.due("clear()", raster.clear(), 0);
        DUE.due("add, the first", raster.add(0, 0, true), 1);
    }

    private static void newNotByParity() {
        DUE.about("Promise 1: not by PARITY");
        CurveRaster first = new CurveRaster();
        DUE.due("parity(true)", first.parity(true), false);
        DUE.due("parity(true) of the next object", new CurveRaster().parity(true), false);
        CurveRaster twice = new CurveRaster();
        Due.box(twice, 0, 0, 64, 64);
        Due.box(twice, 0, 0, 64, 64);
        DUE.due("a pixel wound twice", twice.row(63), 1);
    }

    private static void addHowMany() {
        DUE.about("Promise 2: A point more of the contour that is open: how many it has");
        CurveRaster raster = new CurveRaster();
        for (int i = 1; i <= 100; i++) {
            DUE.due("add, point " + i, raster.add(5, 5, i % 2 == 0), i);
        }
        raster.close();
        DUE.due("add, the first after close", raster.add(5, 5, false), 1);
        DUE.due("add, the second after close", raster.add(5, 5, false), 2);
        raster.drop();
        DUE.due("add, the first after drop", raster.add(5, 5, true), 1);
        raster.clear();
        DUE.due("add, the first after clear", raster.add(5, 5, true), 1);
        DUE.due("points", raster.count(1), 1);
    }

    private static void addCoordinateIsNot() {
        DUE.about("Promise 2: IllegalArgument: a coordinate is not -8192 .. 8191");
        CurveRaster raster = new CurveRaster();
        int[] right = {-8192, -8191, -1, 0, 1, 8190, 8191};
        int points = 0;
        for (int value : right) {
            for (boolean on : new boolean[] {false, true}) {
                DUE.due("add(" + value + ", 0, " + on + ")", raster.add(value, 0, on), ++points);
                DUE.due("add(0, " + value + ", " + on + ")", raster.add(0, value, on), ++points);
            }
        }
        int[] wrong = {MIN, MIN + 8192, -65536, -16384, -8193, 8192, 16383, 65536, MAX - 8191, MAX};
        for (int value : wrong) {
            for (boolean on : new boolean[] {false, true}) {
                DUE.refused("add(" + value + ", 0)", IllegalArgumentException.class, () -> raster.add(value, 0, on));
                DUE.refused("add(0, " + value + ")", IllegalArgumentException.class, () -> raster.add(0, value, on));
            }
            DUE.refused("add(" + value + ", both)", IllegalArgumentException.class,
                    () -> raster.add(value, value, true));
        }
        DUE.refused("add(-8193, 8192)", IllegalArgumentException.class, () -> raster.add(-8193, 8192, true));
        DUE.due("points that are not refused", raster.count(1), points);
        DUE.due("add after refused ones", raster.add(0, 0, true), points + 1);
        raster.close();
        extents("points that are not refused", raster, -8192, -8192, 8191, 8191);
    }

    /** After 512 adds the object's calls are used up, and answers free; the class keeps to its limit there too. */
    private static void addThereAre512() {
        DUE.about("Promise 2: IllegalState: there are 512 points in all");
        CurveRaster raster = points(511);
        DUE.due("add, point 512 in all", raster.add(1, 1, true), 508);
        DUE.refused("add, point 513 in all", IllegalStateException.class, () -> raster.add(1, 1, true));
        DUE.refused("add, point 513, not on", IllegalStateException.class, () -> raster.add(1, 1, false));
        DUE.due("points in all", raster.count(1), 512);
        DUE.due("close with 512 points", raster.close(), 2);
        DUE.refused("add, point 513, none open", IllegalStateException.class, () -> raster.add(1, 1, true));
        DUE.due("drop, none open", raster.drop(), 0);
        DUE.refused("add, point 513, none to drop", IllegalStateException.class, () -> raster.add(1, 1, true));
        CurveRaster dropped = points(512);
        DUE.due("drop of 508", dropped.drop(), 508);
        DUE.due("add after drop", dropped.add(1, 1, true), 1);
    }

    private static void addFirstExceptionWins() {
        DUE.about("where it lists more than one exception, the first one wins");
        CurveRaster raster = points(512);
        int[] wrong = {MIN, -8193, 8192, MAX};
        for (int value : wrong) {
            DUE.refused("add(" + value + ", 0), the 513th", IllegalArgumentException.class,
                    () -> raster.add(value, 0, true));
            DUE.refused("add(0, " + value + "), the 513th", IllegalArgumentException.class,
                    () -> raster.add(0, value, false));
        }
        DUE.refused("add(8191, -8192), the 513th", IllegalStateException.class, () -> raster.add(8191, -8192, true));
    }

    private static void closeHowMany() {
        DUE.about("Promise 3: The open contour is closed: how many contours there are");
        CurveRaster raster = new CurveRaster();
        for (int i = 1; i <= 64; i++) {
            raster.add(0, 0, i % 2 == 0);
            DUE.due("close, contour " + i, raster.close(), i);
            DUE.due("count(0) then", raster.count(0), i);
        }
        raster.clear();
        raster.add(0, 0, true);
        DUE.due("close, the first after clear", raster.close(), 1);
        DUE.due("drop of what is closed", raster.drop(), 0);
        DUE.due("contours after drop", raster.count(0), 1);
    }

    private static void closeNoPoints() {
        DUE.about("Promise 3: IllegalState: it has no points");
        CurveRaster raster = new CurveRaster();
        DUE.refused("close, new", IllegalStateException.class, raster::close);
        raster.add(3, 3, true);
        DUE.due("close, one point", raster.close(), 1);
        DUE.refused("close, closed", IllegalStateException.class, raster::close);
        raster.add(3, 3, true);
        raster.drop();
        DUE.refused("close, dropped", IllegalStateException.class, raster::close);
        DUE.due("contours", raster.count(0), 1);
        raster.add(3, 3, true);
        raster.clear();
        DUE.refused("close, cleared", IllegalStateException.class, raster::close);
        DUE.refused("add, refused", IllegalArgumentException.class, () -> raster.add(8192, 0, true));
        DUE.refused("close, its only point refused", IllegalStateException.class, raster::close);
        DUE.due("contours, cleared", raster.count(0), 0);
    }

    private static void closeThereAre64() {
        DUE.about("Promise 3: IllegalState: there are 64 contours");
        CurveRaster raster = contours(63);
        raster.add(100, 100, true);
        DUE.due("close, contour 64", raster.close(), 64);
        DUE.due("add, the first of contour 65", raster.add(200, 200, true), 1);
        DUE.refused("close, contour 65", IllegalStateException.class, raster::close);
        DUE.due("contours", raster.count(0), 64);
        DUE.due("lines, without contour 65", raster.count(2), 32);
        extents("without contour 65", raster, 0, -62, 100, 100);
        DUE.due("add, the second of contour 65", raster.add(300, 300, true), 2);
        DUE.refused("close, contour 65 again", IllegalStateException.class, raster::close);
        DUE.due("drop of contour 65", raster.drop(), 2);
        DUE.due("clear", raster.clear(), 64);
        raster.add(200, 200, true);
        DUE.due("close after clear", raster.close(), 1);
        extents("after clear", raster, 200, 200, 200, 200);
    }

    private static void closeNeither() {
        DUE.about("Promise 3: IllegalState: it has no points, or there are 64 contours");
        CurveRaster raster = contours(64);
        DUE.refused("close, no points and 64 contours", IllegalStateException.class, raster::close);
        DUE.due("contours", raster.count(0), 64);
        DUE.due("points", raster.count(1), 64);
    }

    private static void dropPointsAreGone() {
        DUE.about("Promise 4: The points of the open contour are gone");
        CurveRaster raster = new CurveRaster();
        Due.box(raster, 0, 0, 64, 64);
        Due.points(raster, 8191, 8191, 1, -8192, -8192, 0);
        raster.drop();
        DUE.due("points", raster.count(1), 4);
        DUE.due("contours", raster.count(0), 1);
        DUE.due("row", raster.row(63), 1);
        raster.move(8000, 8000);
        extents("what is left", raster, 8000, 8000, 8064, 8064);
        Due.contour(raster, 0, 0, 0);
        DUE.due("a new contour: lines", raster.count(2), 4);
        DUE.due("a new contour: curves", raster.count(3), 1);
        extents("and a new contour", raster, 0, 0, 8064, 8064);
    }

    private static void dropHowMany() {
        DUE.about("Promise 4: how many they were");
        CurveRaster raster = new CurveRaster();
        DUE.due("drop, new", raster.drop(), 0);
        raster.add(1, 1, true);
        DUE.due("drop, one", raster.drop(), 1);
        DUE.due("drop, again", raster.drop(), 0);
        Due.contour(raster, 1, 1, 1, 2, 2, 1);
        DUE.due("drop, closed", raster.drop(), 0);
        Due.points(raster, 1, 1, 1, 2, 2, 0, 3, 3, 1);
        DUE.due("drop, three behind a contour", raster.drop(), 3);
        raster.add(1, 1, true);
        raster.clear();
        DUE.due("drop, cleared", raster.drop(), 0);
        CurveRaster many = new CurveRaster();
        for (int i = 0; i < 511; i++) {
            many.add(i, i, true);
        }
        DUE.due("drop, call 512", many.drop(), 511);
        DUE.due("drop, all 512 of them", allOpen().drop(), 512);
    }

    private static CurveRaster allOpen() {
        CurveRaster raster = new CurveRaster();
        for (int i = 0; i < 512; i++) {
            raster.add(i, i, true);
        }
        return raster;
    }

    private static void clearAllAreGone() {
        DUE.about("Promise 5: All contours, and the open one, are gone");
        CurveRaster raster = new CurveRaster();
        Due.box(raster, 0, 0, 4096, 4096);
        Due.points(raster, 8191, 8191, 1, -8192, -8192, 0);
        raster.clear();
        for (int what = 0; what <= 4; what++) {
            DUE.due("count(" + what + ")", raster.count(what), 0);
        }
        DUE.due("winding", raster.winding(2048, 2048), 0);
        DUE.due("row", raster.row(32), 0);
        DUE.due("share", raster.share(32, 32), 0);
        DUE.refused("extent(0)", IllegalStateException.class, () -> raster.extent(0));
        DUE.refused("close", IllegalStateException.class, raster::close);
        raster.move(1, 1);
        Due.contour(raster, 7, 8, 1);
        extents("a new contour alone", raster, 7, 8, 7, 8);
        DUE.due("its lines", raster.count(2), 1);
        raster.parity(true);
        raster.clear();
        DUE.due("PARITY, of which the promise says nothing", raster.parity(false), true);
    }

    private static void clearHowMany() {
        DUE.about("Promise 5: how many contours there were");
        DUE.due("clear, new", new CurveRaster().clear(), 0);
        CurveRaster open = new CurveRaster();
        open.add(1, 1, true);
        DUE.due("clear, an open one alone", open.clear(), 0);
        DUE.due("points then", open.count(1), 0);
        DUE.due("clear, one", contours(1).clear(), 1);
        DUE.due("clear, 64", contours(64).clear(), 64);
        CurveRaster both = contours(63);
        both.add(1, 1, true);
        DUE.due("clear, 63 and an open one", both.clear(), 63);
        DUE.due("clear again", both.clear(), 0);
    }

    private static void clearMakesRoom() {
        DUE.about("Promise 5: All contours, and the open one, are gone");
        CurveRaster full = contours(64);
        full.clear();
        for (int i = 1; i <= 64; i++) {
            full.add(i, i, true);
            DUE.due("close after clear, contour " + i, full.close(), i);
        }
        full.add(0, 0, true);
        DUE.refused("close after clear, contour 65", IllegalStateException.class, full::close);
        CurveRaster points = points(512);
        points.clear();
        DUE.due("add after 512 points", points.add(0, 0, true), 1);
    }

    private static void moveAllPoints() {
        DUE.about("Promise 6: All points, the open contour's too, are moved");
        CurveRaster raster = new CurveRaster();
        Due.box(raster, 0, 0, 64, 64);
        Due.contour(raster, 200, 200, 0);
        Due.points(raster, 300, 300, 1, 400, 300, 0);
        raster.move(-100, 50);
        extents("the closed ones", raster, -100, 50, 100, 250);
        Due.contour(raster, 300, 350, 1);
        // the open one's Q came from (400, 300): the curve by it is from (200, 350) to (300, 350), level
        extents("and the open one", raster, -100, 50, 300, 350);
        DUE.due("lines", raster.count(2), 5);
        DUE.due("curves", raster.count(3), 2);
        raster.move(0, 0);
        extents("not moved", raster, -100, 50, 300, 350);
        DUE.due("points", raster.count(1), 8);
    }

    private static void moveToTheLimits() {
        DUE.about("Promise 6: some coordinate would not be -8192 .. 8191");
        CurveRaster raster = Due.outline(-8192, -8192, 1);
        raster.move(16383, 16383);
        extents("from the least to the greatest", raster, 8191, 8191, 8191, 8191);
        DUE.refusedMove(raster, 1, 0);
        DUE.refusedMove(raster, 0, 1);
        DUE.refusedMove(raster, -16384, 0);
        DUE.refusedMove(raster, 0, -16384);
        raster.move(-16383, 0);
        extents("x to the least", raster, -8192, 8191, -8192, 8191);
        raster.move(0, -16383);
        extents("y to the least", raster, -8192, -8192, -8192, -8192);
        DUE.refusedMove(raster, -1, 0);
        DUE.refusedMove(raster, 0, -1);
        DUE.refusedMove(raster, 16384, 0);
        DUE.refusedMove(raster, 0, 16384);
        CurveRaster all = new CurveRaster();
        Due.box(all, -8192, -8192, 8191, 8191);
        int[][] steps = {{1, 0}, {-1, 0}, {0, 1}, {0, -1}, {1, 1}, {-1, -1}};
        for (int[] step : steps) {
            DUE.refusedMove(all, step[0], step[1]);
        }
        all.move(0, 0);
        extents("no room at all", all, -8192, -8192, 8191, 8191);
    }

    private static void moveWouldNotBe() {
        DUE.about("Promise 6: IllegalArgument: some coordinate would not be -8192 .. 8191");
        // the point in the way is the second, the first and the last; the last number is the winding of (6, 5)
        int[][] contours = {{0, 0, 8000, 10, 5, 5, -1}, {8000, 10, 0, 0, 5, 5, 1}, {0, 0, 5, 5, 8000, 10, 1}};
        for (int[] at : contours) {
            CurveRaster raster = Due.outline(at[0], at[1], 1, at[2], at[3], 1, at[4], at[5], 1);
            DUE.refusedMove(raster, 192, 0);
            DUE.refusedMove(raster, 192, 100);
            DUE.refusedMove(raster, 100, 8182);
            DUE.refusedMove(raster, -8193, 0);
            DUE.refusedMove(raster, 0, -8193);
            extents("refused", raster, 0, 0, 8000, 10);
            DUE.due("refused: winding", raster.winding(6, 5), at[6]);
            raster.move(191, 8181);
            extents("the greatest step", raster, 191, 8181, 8191, 8191);
            raster.move(-8383, -16373);
            extents("the least step", raster, -8192, -8192, -192, -8182);
        }
    }

    private static void moveByPointsNotSeen() {
        DUE.about("Promise 6: All points, the open contour's too");
        CurveRaster open = Due.outline(0, 0, 1);
        open.add(8191, -8192, false);
        DUE.refusedMove(open, 1, 0);
        DUE.refusedMove(open, 0, -1);
        open.move(-1, 1);
        extents("by an open point", open, -1, 1, -1, 1);
        open.drop();
        open.move(8192, -8193);
        extents("without it", open, 8191, -8192, 8191, -8192);
        CurveRaster openAlone = new CurveRaster();
        openAlone.add(8190, 0, true);
        DUE.refusedMove(openAlone, 2, 0);
        openAlone.move(1, 0);
        openAlone.close();
        extents("an open one alone", openAlone, 8191, 0, 8191, 0);
        CurveRaster notOn = Due.outline(0, 0, 1, 8191, 8191, 0, 0, 100, 1);
        DUE.refusedMove(notOn, 1, 0);
        DUE.refusedMove(notOn, 0, 1);
    }

    private static void moveSumsBeyondAnInt() {
        DUE.about("Promise 6: some coordinate would not be -8192 .. 8191 (sums beyond an int)");
        int[] far = {MIN, MIN + 1, MIN + 8192, MAX - 8192, MAX - 1, MAX};
        int[] ends = {-8192, -1, 0, 1, 8191};
        for (int end : ends) {
            CurveRaster raster = Due.outline(end, end, 1);
            for (int step : far) {
                DUE.refusedMove(raster, step, 0);
                DUE.refusedMove(raster, 0, step);
                DUE.refusedMove(raster, step, step);
            }
            extents("refused far moves", raster, end, end, end, end);
        }
    }

    private static void moveNoPoints() {
        DUE.about("Promise 6: some coordinate would not be -8192 .. 8191 (there is none)");
        CurveRaster raster = new CurveRaster();
        raster.move(MAX, MIN);
        raster.move(MIN, MAX);
        raster.move(1, 1);
        Due.contour(raster, 0, 0, 1);
        extents("told after moves", raster, 0, 0, 0, 0);
        raster.clear();
        raster.add(8191, 8191, true);
        raster.drop();
        raster.move(20000, -20000);
        Due.contour(raster, 3, 4, 0);
        extents("told after moves of none", raster, 3, 4, 3, 4);
    }

    private static void parityFromNowOn() {
        DUE.about("Promise 7: By PARITY from now on, or not");
        CurveRaster raster = new CurveRaster();
        Due.box(raster, 0, 0, 192, 64);
        Due.box(raster, 64, 0, 128, 64);
        for (int turn = 0; turn < 3; turn++) {
            DUE.due("by winding: row", raster.row(63), 7);
            DUE.due("by winding: count(4)", raster.count(4), 3);
            DUE.due("by winding: share", raster.share(1, 63), 16);
            DUE.due("by winding: spans", raster.spans(63), 1);
            DUE.due("by winding: span", raster.span(63, 1, true), CurveRaster.NONE);
            raster.parity(true);
            DUE.due("by parity: row", raster.row(63), 5);
            DUE.due("by parity: count(4)", raster.count(4), 2);
            DUE.due("by parity: share", raster.share(1, 63), 0);
            DUE.due("by parity: spans", raster.spans(63), 2);
            DUE.due("by parity: span", raster.span(63, 1, true), 3);
            DUE.due("by parity: winding", raster.winding(96, 32), 2);
            raster.parity(false);
        }
    }

    private static void parityWhetherItWas() {
        DUE.about("Promise 7: whether it was");
        CurveRaster raster = new CurveRaster();
        boolean[] told = {false, false, true, true, true, false, true, false, false};
        boolean was = false;
        for (boolean is : told) {
            DUE.due("parity(" + is + ")", raster.parity(is), was);
            was = is;
        }
    }
}
