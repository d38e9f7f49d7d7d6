/** The boundary cases that stand under "What it is" and "Terms": a test for each sentence. */
public final class TermsEdgesTest {
    private static final Due DUE = new Due();

    public static void main(String[] args) {
        DUE.part(TermsEdgesTest::usedFor512Calls);
        DUE.part(TermsEdgesTest::as512CallsCanTell);
        DUE.part(TermsEdgesTest::upTo64Contours);
        DUE.part(TermsEdgesTest::upTo512Points);
        DUE.part(TermsEdgesTest::limitsOfCoordinates);
        DUE.part(TermsEdgesTest::pointsAreARing);
        DUE.part(TermsEdgesTest::inTheOrderTold);
        DUE.part(TermsEdgesTest::halfWayBetweenTwoNotOn);
        DUE.part(TermsEdgesTest::halfWayRoundedDown);
        DUE.part(TermsEdgesTest::itsOwnNeighbour);
        DUE.part(TermsEdgesTest::fromOneAloneToItself);
        DUE.part(TermsEdgesTest::endsMaybeTheSame);
        DUE.part(TermsEdgesTest::curveFrom0To1);
        DUE.part(TermsEdgesTest::notAboveAndAbove);
        DUE.part(TermsEdgesTest::notToTheRight);
        DUE.part(TermsEdgesTest::touchesFromAbove);
        DUE.part(TermsEdgesTest::touchesFromBelow);
        DUE.part(TermsEdgesTest::sumForAllContours);
        DUE.part(TermsEdgesTest::inIfNot0);
        DUE.part(TermsEdgesTest::inByParityIfOdd);
        DUE.part(TermsEdgesTest::pixelsOfThePicture);
        DUE.part(TermsEdgesTest::middlesOfPixels);
        DUE.part(TermsEdgesTest::sixteenPointsOfAShare);
        DUE.part(TermsEdgesTest::longestRowsOfPixels);
        DUE.part(TermsEdgesTest::openPointsAreNotSeen);
        DUE.end("TermsEdgesTest");
    }

    private static void winding(String text, CurveRaster raster, int x, int y, int want) {
        DUE.due(text + ": winding(" + x + ", " + y + ")", raster.winding(x, y), want);
    }

    private static void extents(String text, CurveRaster raster, int... want) {
        for (int what = 0; what < 4; what++) {
            DUE.due(text + ": extent(" + what + ")", raster.extent(what), want[what]);
        }
    }

    private static void linesAndCurves(String text, CurveRaster raster, int lines, int curves) {
        DUE.due(text + ": count(2)", raster.count(2), lines);
        DUE.due(text + ": count(3)", raster.count(3), curves);
    }

    /** A box of pixels 0 and 1 of the two lowest rows and an open point, after 511 calls. */
    private static CurveRaster usedFor511() {
        CurveRaster raster = new CurveRaster();
        Due.box(raster, 0, 0, 128, 128);
        raster.add(200, 200, true);
        for (int call = 6; call < 511; call++) {
            raster.winding(call, call);
        }
        return raster;
    }

    private static void usedFor512Calls() {
        DUE.about("An object is used for at most 512 calls after it has been made");
        DUE.due("call 512: add", usedFor511().add(8191, -8192, false), 2);
        DUE.due("call 512: close", usedFor511().close(), 2);
        DUE.due("call 512: drop", usedFor511().drop(), 1);
        DUE.due("call 512: clear", usedFor511().clear(), 1);
        usedFor511().move(7991, -8192);
        DUE.refusedMove(usedFor511(), 7992, 0);
        DUE.due("call 512: parity", usedFor511().parity(true), false);
        DUE.due("call 512: count(1)", usedFor511().count(1), 5);
        DUE.due("call 512: count(4)", usedFor511().count(4), 4);
        DUE.due("call 512: winding", usedFor511().winding(127, 127), 1);
        DUE.due("call 512: row", usedFor511().row(62), 3);
        DUE.due("call 512: share", usedFor511().share(1, 62), 16);
        DUE.due("call 512: spans", usedFor511().spans(63), 1);
        DUE.due("call 512: span", usedFor511().span(63, 0, true), 2);
        DUE.due("call 512: extent", usedFor511().extent(3), 128);
        DUE.refused("call 512: extent(4)", IndexOutOfBoundsException.class, () -> usedFor511().extent(4));
    }

    /** 510 points, a close, and one call that asks. */
    private static CurveRaster told510(boolean on) {
        CurveRaster raster = new CurveRaster();
        for (int i = 0; i < 510; i++) {
            raster.add(i % 2 == 0 ? i : -i, i, on);
        }
        raster.close();
        return raster;
    }

    private static void as512CallsCanTell() {
        DUE.about("An object is used for at most 512 calls after it has been made");
        DUE.due("510 told: points", told510(true).count(1), 510);
        DUE.due("510 told, on: lines", told510(true).count(2), 510);
        DUE.due("510 told, not on: curves", told510(false).count(3), 510);
        DUE.due("510 told, on: the last one", told510(true).extent(3), 509);
        // the curve by (508, 508) goes from x = 0 to x = -1: greatest 508 * 508 / 1017 = 253.75
        DUE.due("510 told, not on: the last but one", told510(false).extent(2), 254);
    }

    private static void upTo64Contours() {
        DUE.about("up to 64 CONTOURS");
        CurveRaster raster = new CurveRaster();
        for (int i = 1; i <= 64; i++) {
            Due.points(raster, i, 0, 1, i, 100, 1, 200 - i, 100, 1, 200 - i, 0, 1);
            DUE.due("close, contour " + i, raster.close(), i);
        }
        DUE.due("contours", raster.count(0), 64);
        winding("64 boxes", raster, 64, 50, 64);
        winding("63 of 64 boxes", raster, 63, 50, 63);
        raster.add(100, 50, true);
        DUE.refused("close, contour 65", IllegalStateException.class, raster::close);
        DUE.due("contours still", raster.count(0), 64);
    }

    /**
     * As 512 points take 512 calls, whatever is asked of them comes after those, where answers are free: these hold the
     * class to its own limit.
     */
    private static void upTo512Points() {
        DUE.about("of points, up to 512 in all");
        CurveRaster one = new CurveRaster();
        for (int i = 1; i <= 512; i++) {
            DUE.due("add, point " + i + " of one contour", one.add(i, -i, true), i);
        }
        DUE.refused("add, point 513 of one contour", IllegalStateException.class, () -> one.add(0, 0, true));
        DUE.due("points", one.count(1), 512);
        one.close();
        extents("512 points", one, 1, -512, 512, -1);
        CurveRaster many = new CurveRaster();
        for (int i = 0; i < 512; i++) {
            DUE.due("add, point " + i + " of eights", many.add(i, i, i % 8 == 7), i % 8 + 1);
            if (i % 8 == 7) {
                many.close();
            }
        }
        DUE.refused("add, point 513 of eights", IllegalStateException.class, () -> many.add(0, 0, true));
        DUE.due("contours of eights", many.count(0), 64);
        linesAndCurves("eights", many, 0, 448);
    }

    private static void limitsOfCoordinates() {
        DUE.about("each with x and y, -8192 .. 8191");
        CurveRaster raster = new CurveRaster();
        Due.box(raster, -8192, -8192, 8191, 8191);
        extents("the greatest box", raster, -8192, -8192, 8191, 8191);
        winding("its lower left corner", raster, -8192, -8192, 1);
        winding("left of that", raster, -8193, -8192, 0);
        winding("below that", raster, -8192, -8193, 0);
        winding("its upper right corner, inside", raster, 8190, 8190, 1);
        winding("its right edge", raster, 8191, 8190, 0);
        winding("its upper edge", raster, 8190, 8191, 0);
        CurveRaster curve = Due.outline(-8192, -8192, 1, 8191, 8191, 0, 8191, -8192, 1);
        // y = -8192 + 32766 t (1 - t): greatest -0.5; x = 8191 - 16383 (1 - t) (1 - t): there, at t = 1 / 2, 4095.25
        extents("the greatest curve", curve, -8192, -8192, 8191, 0);
        winding("its top, left", curve, 3943, -1, 0);
        winding("its top", curve, 4095, -1, 1);
        winding("above its top", curve, 4095, 0, 0);
    }

    private static void pointsAreARing() {
        DUE.about("A contour's points are a ring");
        CurveRaster lines = Due.outline(0, 0, 1, 0, 100, 1, 100, 100, 1);
        winding("the line from the last to the first", lines, 59, 60, 1);
        winding("the line from the last to the first", lines, 60, 60, 0);
        CurveRaster last = Due.outline(0, 0, 1, 0, 100, 1, 100, 50, 0);
        CurveRaster first = Due.outline(100, 50, 0, 0, 0, 1, 0, 100, 1);
        // x = 200 t (1 - t), y = 100 (1 - t): at 50, 50
        winding("the last is not on", last, 49, 50, 1);
        winding("the last is not on", last, 50, 50, 0);
        winding("the first is not on", first, 49, 50, 1);
        winding("the first is not on", first, 50, 50, 0);
        linesAndCurves("the last is not on", last, 1, 1);
        linesAndCurves("the first is not on", first, 1, 1);
        CurveRaster both = Due.outline(100, 0, 0, 0, 50, 1, 100, 101, 0);
        linesAndCurves("the first and the last are not on", both, 0, 2);
        // put in: (100, 50); from there y goes down by 50 * 50 / 100, to there up by 51 * 51 / 102
        extents("the first and the last are not on", both, 0, 25, 100, 76);
    }

    private static void inTheOrderTold() {
        DUE.about("in the order told");
        winding("one way", Due.outline(0, 0, 1, 0, 100, 1, 100, 100, 1, 100, 0, 1), 50, 50, 1);
        winding("the other way", Due.outline(100, 0, 1, 100, 100, 1, 0, 100, 1, 0, 0, 1), 50, 50, -1);
        CurveRaster crossed = Due.outline(0, 0, 1, 100, 100, 1, 0, 100, 1, 100, 0, 1);
        winding("crossed, above", crossed, 50, 75, -1);
        winding("crossed, below", crossed, 50, 25, 1);
        winding("crossed, left", crossed, 24, 25, 0);
        winding("crossed, left", crossed, 24, 75, 0);
    }

    private static void halfWayBetweenTwoNotOn() {
        DUE.about("Between two neighbours that are not ON a point that is ON is put in, half-way");
        CurveRaster two = Due.outline(0, 0, 0, 200, 100, 0);
        linesAndCurves("two", two, 0, 2);
        // put in, twice: (100, 50); so each curve goes half of the way to its Q
        extents("two", two, 50, 25, 150, 75);
        DUE.due("two: points told", two.count(1), 2);
        CurveRaster round = Due.outline(0, 0, 0, 0, 200, 0, 200, 200, 0, 200, 0, 0);
        linesAndCurves("four", round, 0, 4);
        extents("four", round, 0, 0, 200, 200);
        winding("four: the left point put in", round, 0, 100, 1);
        winding("four: left of it", round, -1, 100, 0);
        winding("four: above it", round, 0, 101, 0);
        CurveRaster on = Due.outline(0, 0, 0, 0, 200, 1, 200, 200, 0, 200, 0, 1);
        linesAndCurves("none of them neighbours", on, 0, 2);
    }

    /** The curve leaves the point that is put in upwards, and from its own height: so the place at it tells its x. */
    private static void halfWayRoundedDown() {
        DUE.about("each coordinate rounded down");
        CurveRaster above = Due.outline(3, 0, 0, 4, 100, 0, 500, 50, 1);
        winding("x 3.5 is 3", above, 3, 50, 1);
        winding("x 3.5 is 3", above, 2, 50, 0);
        CurveRaster below = Due.outline(-3, 0, 0, -4, 100, 0, 500, 50, 1);
        winding("x -3.5 is -4", below, -4, 50, 1);
        winding("x -3.5 is -4", below, -5, 50, 0);
        CurveRaster y = Due.outline(-1000, -3, 0, 1000, 4, 0, 0, -500, 1);
        winding("y 0.5 is 0", y, 0, 0, 1);
        winding("y 0.5 is 0", y, -1, 0, 0);
        CurveRaster yBelow = Due.outline(-1000, -4, 0, 1000, 3, 0, 0, -500, 1);
        winding("y -0.5 is -1", yBelow, 0, -1, 1);
        winding("y -0.5 is -1", yBelow, -1, -1, 0);
        CurveRaster least = Due.outline(-8192, -8192, 0, -8191, 8191, 0, 500, -1, 1);
        winding("least: -8192, -1", least, -8192, -1, 1);
        winding("least: -8192, -1", least, -8193, -1, 0);
        CurveRaster greatest = Due.outline(8191, -8191, 0, 8190, 8191, 0, 500, 0, 1);
        winding("greatest: 8190, 0", greatest, 8190, 0, 0);
        winding("greatest: 8190, 0", greatest, 8189, 0, -1);
    }

    private static void itsOwnNeighbour() {
        DUE.about("also one that is its own neighbour");
        CurveRaster raster = Due.outline(-7, 9, 0);
        linesAndCurves("one not on", raster, 0, 1);
        DUE.due("one not on: points", raster.count(1), 1);
        extents("one not on", raster, -7, 9, -7, 9);
        for (int y = 8; y <= 10; y++) {
            winding("one not on", raster, -7, y, 0);
        }
        extents("one not on, least", Due.outline(-8192, -8192, 0), -8192, -8192, -8192, -8192);
        extents("one not on, greatest", Due.outline(8191, 8191, 0), 8191, 8191, 8191, 8191);
    }

    private static void fromOneAloneToItself() {
        DUE.about("From one that is ON to the next that is ON goes a LINE (from one alone to itself, too)");
        CurveRaster raster = Due.outline(-7, 9, 1);
        linesAndCurves("one on", raster, 1, 0);
        extents("one on", raster, -7, 9, -7, 9);
        for (int y = 8; y <= 10; y++) {
            winding("one on", raster, -7, y, 0);
        }
        linesAndCurves("two on", Due.outline(0, 0, 1, 0, 0, 1), 2, 0);
    }

    private static void endsMaybeTheSame() {
        DUE.about("P and R being the two that are ON (maybe the same)");
        CurveRaster raster = Due.outline(0, 0, 1, 100, 50, 0);
        linesAndCurves("on, not on", raster, 0, 1);
        extents("on, not on", raster, 0, 0, 50, 25);
        winding("on, not on", raster, 30, 10, 0);
        winding("on, not on", raster, 100, 0, 0);
        CurveRaster other = Due.outline(100, 50, 0, 0, 0, 1);
        linesAndCurves("not on, on", other, 0, 1);
        extents("not on, on", other, 0, 0, 50, 25);
        CurveRaster all = Due.outline(5, 5, 1, 5, 5, 0);
        linesAndCurves("all the same", all, 0, 1);
        extents("all the same", all, 5, 5, 5, 5);
    }

    private static void curveFrom0To1() {
        DUE.about("for t from 0 to 1");
        CurveRaster arch = Due.outline(0, 0, 1, 50, 100, 0, 100, 0, 1);
        winding("below both ends", arch, 50, -1, 0);
        winding("below both ends", arch, 16383, -1, 0);
        winding("at t = 0", arch, 0, 0, 1);
        winding("before t = 0", arch, -1, 0, 0);
        winding("before t = 1", arch, 99, 0, 1);
        winding("at t = 1", arch, 100, 0, 0);
        // x = 100 t t, y = 100 t (2 - t): at 50 again at x = 291, with t above 1
        CurveRaster quarter = Due.outline(0, 0, 1, 0, 100, 0, 100, 100, 1, 100, 0, 1);
        winding("on the quarter", quarter, 8, 50, 0);
        winding("on the quarter", quarter, 9, 50, 1);
        winding("beyond it", quarter, 290, 50, 0);
        winding("beyond it", quarter, 292, 50, 0);
    }

    private static void notAboveAndAbove() {
        DUE.about("goes from not above y to above y counts + 1, from above y to not above y counts - 1");
        CurveRaster box = new CurveRaster();
        Due.box(box, 0, 0, 100, 100);
        winding("box, below", box, 50, -1, 0);
        winding("box, at its lower edge", box, 50, 0, 1);
        winding("box, below its upper edge", box, 50, 99, 1);
        winding("box, at its upper edge", box, 50, 100, 0);
        CurveRaster down = Due.outline(0, 100, 1, 0, 0, 1, 100, 0, 1, 100, 100, 1);
        winding("box downwards, below", down, 50, -1, 0);
        winding("box downwards, at its lower edge", down, 50, 0, -1);
        winding("box downwards, below its upper edge", down, 50, 99, -1);
        winding("box downwards, at its upper edge", down, 50, 100, 0);
        CurveRaster quarter = Due.outline(0, 0, 1, 0, 100, 0, 100, 100, 1, 100, 0, 1);
        winding("curve, below", quarter, 0, -1, 0);
        winding("curve, at its lower end", quarter, 0, 0, 1);
        winding("curve, below its upper end", quarter, 99, 99, 1);
        winding("curve, at its upper end", quarter, 99, 100, 0);
        CurveRaster level = Due.outline(0, 50, 1, 50, 50, 0, 100, 50, 1);
        winding("level, at its height", level, 50, 50, 0);
        winding("level, below", level, 50, 49, 0);
    }

    private static void notToTheRight() {
        DUE.about("if the place is not to the right of the point (its x is not above that)");
        CurveRaster box = new CurveRaster();
        Due.box(box, -100, 0, 100, 100);
        winding("at the left edge", box, -100, 50, 1);
        winding("beside the left edge", box, -101, 50, 0);
        winding("before the right edge", box, 99, 50, 1);
        winding("at the right edge", box, 100, 50, 0);
        // places at a third and, below 0, at -9 and two thirds
        CurveRaster third = Due.outline(0, 0, 1, 1, 3, 1, 500, 0, 1);
        winding("a third", third, 0, 1, 0);
        winding("a third", third, 1, 1, 1);
        third.move(-10, 0);
        winding("a third, below 0", third, -10, 1, 0);
        winding("a third, below 0", third, -9, 1, 1);
        // x = 64 t t, y = 64 t (2 - t): at 48, 16; at 32, 5.49
        CurveRaster curve = Due.outline(0, 0, 1, 0, 64, 0, 64, 64, 1, 64, 0, 1);
        winding("whole", curve, 15, 48, 0);
        winding("whole", curve, 16, 48, 1);
        winding("by a root", curve, 5, 32, 0);
        winding("by a root", curve, 6, 32, 1);
        curve.move(-32, 0);
        winding("whole, below 0", curve, -17, 48, 0);
        winding("whole, below 0", curve, -16, 48, 1);
        winding("by a root, below 0", curve, -27, 32, 0);
        winding("by a root, below 0", curve, -26, 32, 1);
    }

    private static void touchesFromAbove() {
        DUE.about("A curve that only touches the height from above has two such places, at the same x");
        CurveRaster bowl = Due.outline(0, 100, 1, 50, 0, 0, 100, 100, 1);
        for (int x = 0; x <= 100; x += 10) {
            winding("touched", bowl, x, 50, 0);
            winding("below", bowl, x, 49, 0);
        }
        // at 51 the places are 50 - 7.07 and 50 + 7.07
        winding("above", bowl, 42, 51, 0);
        winding("above", bowl, 43, 51, -1);
        winding("above", bowl, 57, 51, -1);
        winding("above", bowl, 58, 51, 0);
        // y = 3 (3 t - 2) (3 t - 2), at 0 where t = 2 / 3, x = 200 / 3: not whole
        CurveRaster between = Due.outline(0, 12, 1, 50, -6, 0, 100, 3, 1);
        winding("touched between", between, 66, 0, 0);
        winding("touched between", between, 67, 0, 0);
        // a curve that turns at its own end
        CurveRaster end = Due.outline(0, 0, 1, 50, 0, 0, 100, 100, 1, 0, 100, 1);
        winding("touches with its end", end, -1, 0, 0);
        winding("touches with its end", end, 0, 0, 0);
        winding("above its end", end, 9, 1, -1);
        winding("above its end", end, 10, 1, 0);
        CurveRaster corner = Due.outline(0, 100, 1, 50, 50, 1, 100, 100, 1);
        winding("two lines that touch", corner, 49, 50, 0);
        winding("two lines that touch", corner, 50, 50, 0);
        winding("two lines above", corner, 50, 51, -1);
    }

    private static void touchesFromBelow() {
        DUE.about("Above y: of a greater coordinate");
        CurveRaster arch = Due.outline(0, 0, 1, 50, 100, 0, 100, 0, 1);
        for (int x = 0; x <= 100; x += 10) {
            winding("touched", arch, x, 50, 0);
        }
        winding("below", arch, 42, 49, 0);
        winding("below", arch, 43, 49, 1);
        winding("below", arch, 57, 49, 1);
        winding("below", arch, 58, 49, 0);
        CurveRaster corner = Due.outline(0, 0, 1, 50, 50, 1, 100, 0, 1);
        winding("two lines that touch", corner, 50, 50, 0);
        winding("two lines below", corner, 50, 49, 1);
    }

    private static void sumForAllContours() {
        DUE.about("What counts is the sum for all contours");
        CurveRaster raster = new CurveRaster();
        int[] windings = {1, 2, 3, 2, 1, 0, -1, -2};
        for (int i = 0; i < windings.length; i++) {
            if (i < 3) {
                Due.box(raster, 0, 0, 64, 64);
            } else {
                Due.contour(raster, 64, 0, 1, 64, 64, 1, 0, 64, 1, 0, 0, 1);
            }
            winding("contours " + (i + 1), raster, 32, 32, windings[i]);
        }
    }

    /** As many boxes as the winding asks for, each pixel 0 of the lowest row; below 0, the other way round. */
    private static CurveRaster wound(int winding) {
        CurveRaster raster = new CurveRaster();
        for (int i = 0; i < winding; i++) {
            Due.box(raster, 0, 0, 64, 64);
        }
        for (int i = 0; i > winding; i--) {
            Due.contour(raster, 64, 0, 1, 64, 64, 1, 0, 64, 1, 0, 0, 1);
        }
        return raster;
    }

    private static void inIfNot0() {
        DUE.about("A point is IN if its winding is not 0");
        for (int winding = -4; winding <= 4; winding++) {
            CurveRaster raster = wound(winding);
            DUE.due("wound " + winding + ": row(63)", raster.row(63), winding == 0 ? 0 : 1);
            DUE.due("wound " + winding + ": share(0, 63)", raster.share(0, 63), winding == 0 ? 0 : 16);
            DUE.due("wound " + winding + ": count(4)", raster.count(4), winding == 0 ? 0 : 1);
        }
    }

    private static void inByParityIfOdd() {
        DUE.about("told to go by PARITY, if it is odd");
        int[] odd = {0, 1, 0, 1, 0, 1, 0, 1, 0};
        for (int winding = -4; winding <= 4; winding++) {
            CurveRaster raster = wound(winding);
            raster.parity(true);
            int in = odd[winding + 4];
            DUE.due("by parity, wound " + winding + ": row(63)", raster.row(63), in);
            DUE.due("by parity, wound " + winding + ": share(0, 63)", raster.share(0, 63), 16 * in);
            DUE.due("by parity, wound " + winding + ": spans(63)", raster.spans(63), in);
            winding("by parity", raster, 32, 32, winding);
        }
    }

    private static CurveRaster boxed(int left, int bottom, int right, int top) {
        CurveRaster raster = new CurveRaster();
        Due.box(raster, left, bottom, right, top);
        return raster;
    }

    private static void pixelsOfThePicture() {
        DUE.about("THE PICTURE has 64 by 64 PIXELS");
        DUE.due("all that can be told", boxed(-8192, -8192, 8191, 8191).count(4), 4096);
        DUE.due("the picture itself", boxed(0, 0, 4096, 4096).count(4), 4096);
        DUE.due("left of it", boxed(-8192, -8192, 32, 8191).count(4), 0);
        DUE.due("its first column", boxed(-8192, -8192, 33, 8191).count(4), 64);
        DUE.due("right of it", boxed(4065, -8192, 8191, 8191).count(4), 0);
        DUE.due("its last column", boxed(4064, -8192, 8191, 8191).count(4), 64);
        DUE.due("below it", boxed(-8192, -8192, 8191, 32).count(4), 0);
        DUE.due("its lowest row", boxed(-8192, -8192, 8191, 33).row(63), -1L);
        DUE.due("its lowest row alone", boxed(-8192, -8192, 8191, 33).count(4), 64);
        DUE.due("above it", boxed(-8192, 4065, 8191, 8191).count(4), 0);
        DUE.due("its uppermost row", boxed(-8192, 4064, 8191, 8191).row(0), -1L);
        DUE.due("its uppermost row alone", boxed(-8192, 4064, 8191, 8191).count(4), 64);
    }

    private static void middlesOfPixels() {
        DUE.about("has its middle at 64 x + 32, 64 (63 - r) + 32");
        int[] indices = {0, 1, 31, 32, 62, 63};
        for (int x : indices) {
            for (int r : indices) {
                int middleX = 64 * x + 32;
                int middleY = 64 * (63 - r) + 32;
                CurveRaster raster = boxed(middleX, middleY, middleX + 1, middleY + 1);
                DUE.due("middle of " + x + ", " + r + ": row", raster.row(r), 1L << x);
                DUE.due("middle of " + x + ", " + r + ": count(4)", raster.count(4), 1);
                CurveRaster around = boxed(middleX - 63, middleY - 63, middleX, middleY);
                DUE.due("before the middle of " + x + ", " + r + ": count(4)", around.count(4), 0);
            }
        }
    }

    private static void sixteenPointsOfAShare() {
        DUE.about("Its SHARE is how many of sixteen points are IN");
        int[] indices = {0, 63};
        for (int x : indices) {
            for (int r : indices) {
                int left = 64 * x;
                int bottom = 64 * (63 - r);
                for (int in = 0; in <= 16; in++) {
                    CurveRaster raster = new CurveRaster();
                    for (int point = 0; point < in; point++) {
                        int pointX = left + 8 + 16 * (point % 4);
                        int pointY = bottom + 8 + 16 * (point / 4);
                        Due.box(raster, pointX, pointY, pointX + 1, pointY + 1);
                    }
                    DUE.due(in + " points of " + x + ", " + r, raster.share(x, r), in);
                }
                DUE.due("up to the points", boxed(left + 9, bottom + 9, left + 24, bottom + 24).share(x, r), 0);
                DUE.due("around all", boxed(left + 8, bottom + 8, left + 57, bottom + 57).share(x, r), 16);
                DUE.due("but for the last", boxed(left + 8, bottom + 8, left + 56, bottom + 56).share(x, r), 9);
            }
        }
    }

    private static void longestRowsOfPixels() {
        DUE.about("A SPAN is a longest row of pixels that are set, in one row");
        CurveRaster none = boxed(0, 64, 4096, 128);
        DUE.due("none beside a full row", none.spans(63), 0);
        DUE.due("a full row", none.spans(62), 1);
        CurveRaster touching = boxed(64, 0, 128, 64);
        Due.box(touching, 128, 0, 192, 64);
        DUE.due("two boxes side by side", touching.spans(63), 1);
        DUE.due("two boxes side by side: begin", touching.span(63, 0, false), 1);
        DUE.due("two boxes side by side: end", touching.span(63, 0, true), 3);
        CurveRaster apart = boxed(64, 0, 128, 64);
        Due.box(apart, 192, 0, 256, 64);
        DUE.due("two boxes with one pixel between", apart.spans(63), 2);
        CurveRaster ends = boxed(3968, 0, 4096, 64);
        Due.box(ends, 0, 64, 128, 128);
        DUE.due("the end of one row and the beginning of the next", ends.spans(62), 1);
        DUE.due("the end of one row and the beginning of the next", ends.spans(63), 1);
        DUE.due("the end of a row", ends.span(63, 0, true), 64);
    }

    private static void openPointsAreNotSeen() {
        DUE.about("the points told since the last one was are not seen");
        CurveRaster raster = new CurveRaster();
        Due.points(raster, 0, 0, 1, 0, 4096, 1, 4096, 4096, 1, 4096, 0, 0);
        nothingSeen("open alone", raster);
        DUE.refused("open alone: extent(0)", IllegalStateException.class, () -> raster.extent(0));
        raster.drop();
        Due.contour(raster, -5, -5, 1);
        Due.points(raster, 0, 0, 1, 0, 4096, 1, 4096, 4096, 1, 4096, 0, 0);
        DUE.due("open behind one: count(0)", raster.count(0), 1);
        linesAndCurves("open behind one", raster, 1, 0);
        DUE.due("open behind one: count(4)", raster.count(4), 0);
        winding("open behind one", raster, 2048, 2048, 0);
        extents("open behind one", raster, -5, -5, -5, -5);
        raster.close();
        linesAndCurves("closed", raster, 3, 1);
        winding("closed", raster, 1000, 2048, 1);
        extents("closed", raster, -5, -5, 4096, 4096);
    }

    private static void nothingSeen(String text, CurveRaster raster) {
        DUE.due(text + ": count(0)", raster.count(0), 0);
        linesAndCurves(text, raster, 0, 0);
        DUE.due(text + ": count(4)", raster.count(4), 0);
        winding(text, raster, 1000, 2048, 0);
        DUE.due(text + ": row(32)", raster.row(32), 0);
        DUE.due(text + ": share(32, 32)", raster.share(32, 32), 0);
        DUE.due(text + ": spans(32)", raster.spans(32), 0);
        DUE.due(text + ": span(32, 0, false)", raster.span(32, 0, false), CurveRaster.NONE);
    }
}
