import java.io.IOException;
import java.nio.file.Files;
import java.nio.file.Path;
import java.util.List;

/** Every sentence under "Terms", in the document's order: each has a test here, held to all that the sentence says. */
public final class TermsTest {
    private record Sentence(String text, Runnable test) {
    }

    private static final Due DUE = new Due();
    private static final Path DOCUMENT = Path.of("../shared/DOC.md");

    private static final List<Sentence> SENTENCES = List.of(
            new Sentence("An outline has up to 64 CONTOURS of points, up to 512 in all, each with x and y, "
                    + "-8192 .. 8191, in 64ths of a pixel (y grows upwards), and ON or not.", TermsTest::outline),
            new Sentence("A contour's points are a ring, in the order told.", TermsTest::ring),
            new Sentence("Between two neighbours that are not ON (also one that is its own neighbour) a point that is "
                    + "ON is put in, half-way (each coordinate rounded down).", TermsTest::halfWay),
            new Sentence("From one that is ON to the next that is ON goes a LINE (from one alone to itself, too), or, "
                    + "with one Q that is not between, a CURVE: its points are (1 - t)(1 - t) P + 2 t (1 - t) Q + t t R "
                    + "for t from 0 to 1, P and R being the two that are ON (maybe the same).", TermsTest::linesAndCurves),
            new Sentence("The WINDING of a point (x, y), of whole coordinates -16384 .. 16383: each place of a LINE or "
                    + "CURVE at which it goes from not above y to above y counts + 1, each at which it goes from above y "
                    + "to not above y counts - 1, if the place is not to the right of the point (its x is not above "
                    + "that).", TermsTest::windings),
            new Sentence("(Above y: of a greater coordinate.", TermsTest::above),
            new Sentence("A curve that only touches the height from above has two such places, one behind the other, at "
                    + "the same x.)", TermsTest::touches),
            new Sentence("What counts is the sum for all contours.", TermsTest::sum),
            new Sentence("A point is IN if its winding is not 0; told to go by PARITY, if it is odd.", TermsTest::in),
            new Sentence("THE PICTURE has 64 by 64 PIXELS: pixel x of row r, both 0 .. 63, has its middle at 64 x + 32, "
                    + "64 (63 - r) + 32.", TermsTest::picture),
            new Sentence("It is SET if that is IN.", TermsTest::set),
            new Sentence("Its SHARE is how many of sixteen points are IN: 64 x + 8 + 16 i, 64 (63 - r) + 8 + 16 j, for "
                    + "i and j 0 .. 3.", TermsTest::share),
            new Sentence("A SPAN is a longest row of pixels that are set, in one row.", TermsTest::spans),
            new Sentence("A call that throws changes nothing; where it lists more than one exception, the first one "
                    + "wins.", TermsTest::refusals),
            new Sentence("All is told by the contours that are closed; the points told since the last one was are not "
                    + "seen.", TermsTest::closedAlone));

    public static void main(String[] args) throws IOException {
        compareWithDocument();
        for (Sentence sentence : SENTENCES) {
            DUE.about(sentence.text());
            DUE.part(sentence.test());
        }
        DUE.end("TermsTest");
    }

    /** So that no sentence is left without a test if the document changes. */
    private static void compareWithDocument() throws IOException {
        if (!Files.isReadable(DOCUMENT)) {
            System.out.println("TermsTest: no " + DOCUMENT + " here, so its sentences are not compared");
            return;
        }
        String document = Files.readString(DOCUMENT);
        int from = document.indexOf("## Terms") + "## Terms".length();
        String terms = document.substring(from, document.indexOf("\n## ", from));
        // a sentence ends with a full stop, maybe in brackets; the two of "a .. b" stand before no great letter
        List<String> told = List.of(terms.strip().split("(?<=\\.|\\.\\))\\s+(?=[A-Z(])"));
        List<String> tested = SENTENCES.stream().map(Sentence::text).toList();
        for (String sentence : told) {
            DUE.due("a test of \"" + sentence + "\"", tested.contains(sentence), true);
        }
        for (String sentence : tested) {
            DUE.due("in the document: \"" + sentence + "\"", told.contains(sentence), true);
        }
    }

    private static void winding(String text, CurveRaster raster, int x, int y, int want) {
        DUE.due(text + ": winding(" + x + ", " + y + ")", raster.winding(x, y), want);
    }

    /** The place at (x, y) and nothing else counts between x - 1 and x. */
    private static void place(String text, CurveRaster raster, int x, int y, int counts) {
        DUE.due(text + ": place at " + x + ", " + y, raster.winding(x, y) - raster.winding(x - 1, y), counts);
    }

    private static void extents(String text, CurveRaster raster, int... want) {
        for (int what = 0; what < 4; what++) {
            DUE.due(text + ": extent(" + what + ")", raster.extent(what), want[what]);
        }
    }

    private static void counts(String text, CurveRaster raster, int lines, int curves) {
        DUE.due(text + ": lines", raster.count(2), lines);
        DUE.due(text + ": curves", raster.count(3), curves);
    }

    private static CurveRaster boxed(int left, int bottom, int right, int top) {
        CurveRaster raster = new CurveRaster();
        Due.box(raster, left, bottom, right, top);
        return raster;
    }

    private static void outline() {
        CurveRaster contours = new CurveRaster();
        for (int i = 1; i <= 64; i++) {
            contours.add(i, i, true);
            DUE.due("contour " + i, contours.close(), i);
        }
        contours.add(65, 65, true);
        DUE.refused("contour 65", IllegalStateException.class, contours::close);
        CurveRaster points = new CurveRaster();
        for (int i = 1; i <= 512; i++) {
            DUE.due("point " + i, points.add(i - 8192, 8192 - i, true), i);
        }
        DUE.refused("point 513", IllegalStateException.class, () -> points.add(1, 1, true));
        for (int wrong : new int[] {-8193, 8192}) {
            DUE.refused("x " + wrong, IllegalArgumentException.class, () -> new CurveRaster().add(wrong, 0, true));
            DUE.refused("y " + wrong, IllegalArgumentException.class, () -> new CurveRaster().add(0, wrong, true));
        }
        extents("x and y", Due.outline(-8192, 8191, 1, 8191, -8192, 1, 3, 4, 1), -8192, -8192, 8191, 8191);
        // a pixel is 64 wide and high; row 58 is the sixth from below
        CurveRaster pixel = boxed(3 * 64, 5 * 64, 4 * 64, 6 * 64);
        DUE.due("pixel 3 of row 58: its row", pixel.row(58), 1 << 3);
        DUE.due("pixel 3 of row 58 alone", pixel.count(4), 1);
        counts("on", Due.outline(0, 0, 1, 10, 20, 1, 20, 0, 1), 3, 0);
        counts("one not on", Due.outline(0, 0, 1, 10, 20, 0, 20, 0, 1), 1, 1);
        extents("on", Due.outline(0, 0, 1, 10, 20, 1, 20, 0, 1), 0, 0, 20, 20);
        extents("one not on", Due.outline(0, 0, 1, 10, 20, 0, 20, 0, 1), 0, 0, 20, 10);
    }

    private static void ring() {
        int[] told = {0, 0, 1, 0, 300, 0, 200, 300, 1, 300, 300, 1, 300, 0, 0, 90, 0, 0};
        int points = told.length / 3;
        for (int first = 0; first < points; first++) {
            int[] turned = new int[told.length];
            for (int i = 0; i < told.length; i++) {
                turned[i] = told[(i + 3 * first) % told.length];
            }
            CurveRaster raster = Due.outline(turned);
            counts("from point " + first, raster, 1, 3);
            extents("from point " + first, raster, 0, 0, 300, 300);
            winding("from point " + first, raster, 150, 150, 1);
            winding("from point " + first, raster, 285, 150, 1);
            winding("from point " + first, raster, 295, 50, 0);
        }
        winding("upwards on the left", Due.outline(0, 0, 1, 0, 100, 1, 100, 50, 1), 50, 50, 1);
        winding("downwards on the left", Due.outline(100, 50, 1, 0, 100, 1, 0, 0, 1), 50, 50, -1);
        // the same four points: a box, and two triangles that meet in the middle
        winding("a box", Due.outline(0, 0, 1, 0, 90, 1, 90, 90, 1, 90, 0, 1), 10, 45, 1);
        winding("two triangles", Due.outline(0, 0, 1, 90, 90, 1, 0, 90, 1, 90, 0, 1), 10, 45, 0);
    }

    private static void halfWay() {
        counts("three not on", Due.outline(0, 0, 0, 7, 100, 0, 500, 51, 0), 0, 3);
        DUE.due("points put in are not told", Due.outline(0, 0, 0, 7, 100, 0, 500, 51, 0).count(1), 3);
        // put in behind the first: (3.5, 50), rounded down (3, 50)
        place("x rounded down", Due.outline(0, 0, 0, 7, 100, 0, 500, 51, 1), 3, 50, 1);
        place("x rounded down below 0", Due.outline(0, 0, 0, -7, 100, 0, 500, 51, 1), -4, 50, 1);
        // put in: (10, 20.5), rounded down (10, 20)
        place("y rounded down", Due.outline(10, 0, 0, 10, 41, 0, 500, 20, 1), 10, 20, 1);
        place("y rounded down below 0", Due.outline(10, 0, 0, 10, -41, 0, 500, -21, 1), 10, -21, -1);
        counts("its own neighbour", Due.outline(11, 12, 0), 0, 1);
        extents("its own neighbour", Due.outline(11, 12, 0), 11, 12, 11, 12);
        counts("no neighbours that are not on", Due.outline(0, 0, 0, 7, 100, 1, 500, 51, 0, 9, 9, 1), 0, 2);
        // both put in at (50, 50): each curve goes half of the way to its Q
        extents("twice in one place", Due.outline(0, 0, 0, 100, 100, 0), 25, 25, 75, 75);
    }

    private static void linesAndCurves() {
        CurveRaster line = Due.outline(0, 0, 1, 48, 64, 1, 5000, 64, 1, 5000, 0, 1);
        counts("lines", line, 4, 0);
        for (int k = 0; k < 16; k++) {
            place("line at t = " + k + " / 16", line, 3 * k, 4 * k, 1);
        }
        CurveRaster curve = Due.outline(0, 0, 1, 128, 256, 0, 1024, 1280, 1, 5000, 1280, 1, 5000, 0, 1);
        counts("a curve and lines", curve, 3, 1);
        for (int k = 0; k < 16; k++) {
            // (256 t (1 - t) + 1024 t t, 512 t (1 - t) + 1280 t t), t = k / 16
            place("curve at t = " + k + " / 16", curve, 16 * k + 3 * k * k, 32 * k + 3 * k * k, 1);
        }
        winding("the curve's end", curve, 1025, 1280, 0);
        winding("behind t = 1", curve, 2000, 1281, 0);
        winding("before t = 0", curve, 2000, -1, 0);
        counts("one alone", Due.outline(5, 6, 1), 1, 0);
        counts("two on", Due.outline(5, 6, 1, 7, 8, 1), 2, 0);
        counts("ends the same", Due.outline(5, 6, 1, 7, 8, 0), 0, 1);
        extents("ends the same", Due.outline(0, 0, 1, 60, -80, 0), 0, -40, 30, 0);
    }

    private static void windings() {
        // up at 0, down at 100 to the bottom; up at 40, down at 60 in it
        CurveRaster box = Due.outline(0, 0, 1, 0, 100, 1, 100, 100, 1, 100, 0, 1);
        Due.contour(box, 40, 20, 1, 40, 80, 1, 60, 80, 1, 60, 20, 1);
        int[] xs = {-1, 0, 39, 40, 59, 60, 99, 100};
        int[] middle = {0, 1, 1, 2, 2, 1, 1, 0};
        int[] low = {0, 1, 1, 1, 1, 1, 1, 0};
        for (int i = 0; i < xs.length; i++) {
            winding("two boxes", box, xs[i], 20, middle[i]);
            winding("two boxes", box, xs[i], 79, middle[i]);
            winding("two boxes", box, xs[i], 19, low[i]);
            winding("two boxes", box, xs[i], 80, low[i]);
            winding("two boxes", box, xs[i], -1, 0);
            winding("two boxes", box, xs[i], 100, 0);
        }
        // y = 400 t (1 - t), x = 100 t: up through 75 at t = 1 / 4, down at t = 3 / 4
        CurveRaster arch = Due.outline(0, 0, 1, 50, 200, 0, 100, 0, 1);
        place("arch, up", arch, 25, 75, 1);
        place("arch, down", arch, 75, 75, -1);
        winding("arch, in it", arch, 50, 75, 1);
        winding("arch, behind it", arch, 16383, 75, 0);
        winding("arch, before it", arch, -16384, 75, 0);
        winding("arch, far below", arch, 50, -16384, 0);
        winding("arch, far above", arch, 50, 16383, 0);
        for (int wrong : new int[] {-16385, 16384}) {
            DUE.refused("winding(" + wrong + ", 75)", IllegalArgumentException.class, () -> arch.winding(wrong, 75));
            DUE.refused("winding(50, " + wrong + ")", IllegalArgumentException.class, () -> arch.winding(50, wrong));
        }
    }

    private static void above() {
        CurveRaster up = Due.outline(0, 10, 1, 0, 20, 1, 500, 20, 1, 500, 10, 1);
        place("a line up, its beginning", up, 0, 10, 1);
        place("a line up, below its end", up, 0, 19, 1);
        place("a line up, its end", up, 0, 20, 0);
        place("a line up, below it", up, 0, 9, 0);
        CurveRaster down = Due.outline(0, 20, 1, 0, 10, 1, 500, 10, 1, 500, 20, 1);
        place("a line down, its end", down, 0, 10, -1);
        place("a line down, its beginning", down, 0, 20, 0);
        CurveRaster curve = Due.outline(0, 10, 1, 0, 15, 0, 0, 20, 1, 500, 20, 1, 500, 10, 1);
        place("a curve up, its beginning", curve, 0, 10, 1);
        place("a curve up, its end", curve, 0, 20, 0);
        // y = 400 t (1 - t): its top, 100, is not above 100
        CurveRaster arch = Due.outline(0, 0, 1, 50, 200, 0, 100, 0, 1);
        winding("an arch, its top", arch, 50, 100, 0);
        winding("an arch, below its top", arch, 50, 99, 1);
        winding("an arch, its ends' height", arch, 50, 0, 1);
    }

    private static void touches() {
        // y = 400 (t - 1 / 2) (t - 1 / 2), x = 100 t: touches 0 at x = 50
        CurveRaster bowl = Due.outline(0, 100, 1, 50, -100, 0, 100, 100, 1);
        place("touched", bowl, 50, 0, 0);
        winding("touched", bowl, 50, 0, 0);
        winding("touched", bowl, 49, 0, 0);
        winding("touched, behind it", bowl, 51, 0, 0);
        place("above the touched height", bowl, 45, 1, -1);
        place("above the touched height", bowl, 55, 1, 1);
        winding("below the touched height", bowl, 50, -1, 0);
    }

    private static void sum() {
        CurveRaster raster = boxed(0, 0, 100, 100);
        winding("one", raster, 50, 50, 1);
        Due.contour(raster, 50, 0, 1, 0, 50, 0, 50, 100, 1, 100, 50, 0);
        winding("a box and a leaf", raster, 50, 50, 2);
        winding("a box and a leaf, beside the leaf", raster, 10, 50, 1);
        Due.contour(raster, 100, 0, 1, 100, 100, 1, 0, 100, 1, 0, 0, 1);
        winding("and a box the other way", raster, 50, 50, 1);
        winding("and a box the other way, beside the leaf", raster, 10, 50, 0);
        Due.contour(raster, 100, 0, 1, 100, 100, 1, 0, 100, 1, 0, 0, 1);
        winding("and another", raster, 10, 50, -1);
    }

    private static void in() {
        int[] windings = {-3, -2, -1, 0, 1, 2, 3};
        for (int winding : windings) {
            CurveRaster raster = new CurveRaster();
            for (int i = 0; i < Math.abs(winding); i++) {
                int left = winding > 0 ? 0 : 64;
                Due.contour(raster, left, 0, 1, left, 64, 1, 64 - left, 64, 1, 64 - left, 0, 1);
            }
            winding("wound", raster, 32, 32, winding);
            int notNone = winding == 0 ? 0 : 1;
            int odd = Math.abs(winding) % 2;
            DUE.due("wound " + winding + ": pixel", raster.row(63), notNone);
            DUE.due("wound " + winding + ": share", raster.share(0, 63), 16 * notNone);
            raster.parity(true);
            DUE.due("wound " + winding + ", by parity: pixel", raster.row(63), odd);
            DUE.due("wound " + winding + ", by parity: share", raster.share(0, 63), 16 * odd);
            raster.parity(false);
            DUE.due("wound " + winding + ", no more by parity: pixel", raster.row(63), notNone);
        }
    }

    private static void picture() {
        DUE.due("all pixels", boxed(-8192, -8192, 8191, 8191).count(4), 64 * 64);
        for (int i = 0; i < 64; i++) {
            int other = (i * 27 + 11) % 64;
            int x = 64 * i + 32;
            int y = 64 * (63 - other) + 32;
            CurveRaster middle = boxed(x, y, x + 1, y + 1);
            DUE.due("middle of pixel " + i + " of row " + other, middle.row(other), 1L << i);
            DUE.due("middle of pixel " + i + " of row " + other + " alone", middle.count(4), 1);
            Due.box(middle, x - 31, y - 31, x, y + 32);
            Due.box(middle, x + 1, y - 31, x + 32, y + 32);
            DUE.due("all but the middle of pixel " + i + " of row " + other, middle.count(4), 1);
        }
        for (int wrong : new int[] {-1, 64}) {
            DUE.refused("row(" + wrong + ")", IndexOutOfBoundsException.class, () -> boxed(0, 0, 1, 1).row(wrong));
            DUE.refused("share(" + wrong + ", 0)", IndexOutOfBoundsException.class,
                    () -> boxed(0, 0, 1, 1).share(wrong, 0));
        }
    }

    /** A leaf, a bowl and a box that lie over one another, with windings -1 to 2. */
    private static CurveRaster many(boolean byParity) {
        CurveRaster raster = new CurveRaster();
        Due.contour(raster, 2048, 100, 1, -2000, 2048, 0, 2048, 4000, 1, 6000, 2048, 0);
        Due.contour(raster, 300, 3800, 0, 3800, 3700, 0, 2100, -3000, 0);
        Due.box(raster, 1500, 1000, 4090, 3000);
        raster.parity(byParity);
        return raster;
    }

    private static boolean isIn(int winding, boolean byParity) {
        return byParity ? winding % 2 != 0 : winding != 0;
    }

    private static void set() {
        for (boolean byParity : new boolean[] {false, true}) {
            int all = 0;
            for (int r = 0; r < 64; r++) {
                CurveRaster raster = many(byParity);
                long bits = 0;
                for (int x = 0; x < 64; x++) {
                    if (isIn(raster.winding(64 * x + 32, 64 * (63 - r) + 32), byParity)) {
                        bits |= 1L << x;
                        all++;
                    }
                }
                DUE.due("by parity " + byParity + ": row(" + r + ")", raster.row(r), bits);
            }
            DUE.due("by parity " + byParity + ": count(4)", many(byParity).count(4), all);
        }
    }

    private static void share() {
        for (boolean byParity : new boolean[] {false, true}) {
            for (int r = 0; r < 64; r++) {
                // two pixels of each row, so that all columns come up; 16 windings each
                for (int x : new int[] {r, (r * 5 + 20) % 64}) {
                    CurveRaster raster = many(byParity);
                    int points = 0;
                    for (int i = 0; i < 4; i++) {
                        for (int j = 0; j < 4; j++) {
                            int winding = raster.winding(64 * x + 8 + 16 * i, 64 * (63 - r) + 8 + 16 * j);
                            points += isIn(winding, byParity) ? 1 : 0;
                        }
                    }
                    DUE.due("by parity " + byParity + ": share(" + x + ", " + r + ")", raster.share(x, r), points);
                }
            }
        }
    }

    private static void spans() {
        for (boolean byParity : new boolean[] {false, true}) {
            for (int r = 0; r < 64; r++) {
                CurveRaster raster = many(byParity);
                long bits = raster.row(r);
                int found = 0;
                for (int x = 0; x < 64; x++) {
                    boolean isSet = (bits >>> x & 1) != 0;
                    if (isSet && (x == 0 || (bits >>> x - 1 & 1) == 0)) {
                        DUE.due("row " + r + ": span " + found + " begins", raster.span(r, found, false), x);
                    }
                    if (isSet && (x == 63 || (bits >>> x + 1 & 1) == 0)) {
                        DUE.due("row " + r + ": span " + found + " ends", raster.span(r, found, true), x + 1);
                        found++;
                    }
                }
                DUE.due("row " + r + ": spans", raster.spans(r), found);
                DUE.due("row " + r + ": no span more", raster.span(r, found, false), CurveRaster.NONE);
            }
        }
    }

    private static void refusals() {
        CurveRaster raster = boxed(0, 0, 64, 64);
        raster.add(8000, -8000, true);
        DUE.refused("add(8192, 0)", IllegalArgumentException.class, () -> raster.add(8192, 0, true));
        DUE.refusedMove(raster, 192, 0);
        DUE.refusedMove(raster, 0, -193);
        DUE.refused("extent(4)", IndexOutOfBoundsException.class, () -> raster.extent(4));
        DUE.refused("row(64)", IndexOutOfBoundsException.class, () -> raster.row(64));
        DUE.due("points", raster.count(1), 5);
        extents("refused", raster, 0, 0, 64, 64);
        DUE.due("refused: row(63)", raster.row(63), 1);
        DUE.due("the open contour's points", raster.add(1, 1, true), 2);
        DUE.due("close", raster.close(), 2);
        DUE.refused("close, no points", IllegalStateException.class, raster::close);
        DUE.due("contours", raster.count(0), 2);
        extents("closed", raster, 0, -8000, 8000, 64);
        DUE.refused("extent(4), no contours", IndexOutOfBoundsException.class, () -> new CurveRaster().extent(4));
        CurveRaster full = new CurveRaster();
        for (int i = 0; i < 512; i++) {
            full.add(i, i, true);
        }
        DUE.refused("add(0, 8192), 512 points", IllegalArgumentException.class, () -> full.add(0, 8192, true));
        DUE.refused("add(0, 0), 512 points", IllegalStateException.class, () -> full.add(0, 0, true));
        DUE.due("512 points", full.count(1), 512);
    }

    private static void closedAlone() {
        CurveRaster raster = boxed(0, 0, 64, 64);
        CurveRaster alone = boxed(0, 0, 64, 64);
        Due.points(raster, -100, -100, 1, -100, 4096, 1, 4096, 4096, 0, 4096, -100, 0);
        for (int what : new int[] {0, 2, 3, 4}) {
            DUE.due("open: count(" + what + ")", raster.count(what), alone.count(what));
        }
        DUE.due("open: count(1)", raster.count(1), 8);
        for (int what = 0; what < 4; what++) {
            DUE.due("open: extent(" + what + ")", raster.extent(what), alone.extent(what));
        }
        DUE.due("open: row(63)", raster.row(63), 1);
        DUE.due("open: share(1, 62)", raster.share(1, 62), 0);
        DUE.due("open: spans(40)", raster.spans(40), 0);
        DUE.due("open: span(63, 0, true)", raster.span(63, 0, true), 1);
        winding("open", raster, 500, 500, 0);
        raster.close();
        winding("closed", raster, 500, 500, 1);
        winding("closed", raster, 50, 50, 2);
        counts("closed", raster, 5, 2);
        Due.points(raster, 0, 0, 1, 0, 4096, 1, 4096, 0, 1);
        winding("open again", raster, 500, 500, 1);
    }
}
