import java.util.Arrays;

/**
 * Outlines of lines and quadratic curves, and the pixels that lie in them, decided by the true curves and in whole
 * numbers throughout.
 */
public final class CurveRaster {
    public static final int NONE = -1;

    private static final int MOST_CONTOURS = 64;
    private static final int MOST_POINTS = 512;
    private static final int LEAST_TOLD = -8192;
    private static final int GREATEST_TOLD = 8191;
    private static final int LEAST_ASKED = -16384;
    private static final int GREATEST_ASKED = 16383;

    /** How many pixels a row has, and how many rows the picture has. */
    private static final int SIDE = 64;
    /** How many units of a coordinate a pixel is wide and high. */
    private static final int PIXEL = 64;
    private static final int MIDDLE = 32;
    private static final int SHARE_FIRST = 8;
    private static final int SHARE_STEP = 16;
    private static final int SHARE_SIDE = 4;

    private final int[] xs;
    private final int[] ys;
    private final boolean[] ons;
    /** The line or curve that belongs to a closed contour's point: see {@link #pieceOf}. */
    private final Piece[] pieces;
    /** One longer than a row, so that a place behind the last point has somewhere to be counted. */
    private final int[] windings;
    private final Place place;
    private int contourCount;
    private int pointCount;
    /** The points before this one are the closed contours', those from it on the open one's. */
    private int openFrom;
    private boolean byParity;

    public CurveRaster() {
        xs = new int[MOST_POINTS];
        ys = new int[MOST_POINTS];
        ons = new boolean[MOST_POINTS];
        pieces = new Piece[MOST_POINTS];
        windings = new int[SIDE + 1];
        place = new Place();
        contourCount = 0;
        pointCount = 0;
        openFrom = 0;
        byParity = false;
    }

    public int add(int x, int y, boolean on) throws IllegalArgumentException, IllegalStateException {
        if (!canBeTold(x) || !canBeTold(y)) {
            throw new IllegalArgumentException("a coordinate is not -8192 .. 8191");
        }
        if (pointCount >= MOST_POINTS) {
            throw new IllegalStateException("there are 512 points in all");
        }
        xs[pointCount] = x;
        ys[pointCount] = y;
        ons[pointCount] = on;
        pointCount++;
        return pointCount - openFrom;
    }

    public int close() throws IllegalStateException {
        if (pointCount == openFrom) {
            throw new IllegalStateException("the open contour has no points");
        }
        if (contourCount >= MOST_CONTOURS) {
            throw new IllegalStateException("there are 64 contours");
        }
        for (int i = openFrom; i < pointCount; i++) {
            pieces[i] = pieceOf(i);
        }
        openFrom = pointCount;
        contourCount++;
        return contourCount;
    }

    public int drop() {
        int dropped = pointCount - openFrom;
        pointCount = openFrom;
        return dropped;
    }

    public int clear() {
        int cleared = contourCount;
        contourCount = 0;
        pointCount = 0;
        openFrom = 0;
        return cleared;
    }

    public void move(int dx, int dy) throws IllegalArgumentException {
        for (int i = 0; i < pointCount; i++) {
            // as long, since a sum of ints could wrap round into what is allowed
            if (!canBeTold((long) xs[i] + dx) || !canBeTold((long) ys[i] + dy)) {
                throw new IllegalArgumentException("a coordinate would not be -8192 .. 8191");
            }
        }
        for (int i = 0; i < pointCount; i++) {
            xs[i] += dx;
            ys[i] += dy;
        }
        for (int i = 0; i < openFrom; i++) {
            Piece piece = pieces[i];
            if (piece != null) {
                piece.shift(dx, dy);
            }
        }
    }

    public boolean parity(boolean is) {
        boolean was = byParity;
        byParity = is;
        return was;
    }

    public int count(int what) {
        switch (what) {
            case 0:
                return contourCount;
            case 1:
                return pointCount;
            case 2:
                return countPieces(true);
            case 3:
                return countPieces(false);
            case 4:
                return countSet();
            default:
                return NONE;
        }
    }

    public int winding(int x, int y) throws IllegalArgumentException {
        if (!canBeAsked(x) || !canBeAsked(y)) {
            throw new IllegalArgumentException("a coordinate is not -16384 .. 16383");
        }
        wind(y, x, 1, 1);
        return windings[0];
    }

    public long row(int r) throws IndexOutOfBoundsException {
        if (!isInPicture(r)) {
            throw new IndexOutOfBoundsException("no such row");
        }
        return rowBits(r);
    }

    public int share(int x, int r) throws IndexOutOfBoundsException {
        if (!isInPicture(x) || !isInPicture(r)) {
            throw new IndexOutOfBoundsException("no such pixel");
        }
        int in = 0;
        for (int j = 0; j < SHARE_SIDE; j++) {
            wind(bottomOf(r) + SHARE_FIRST + SHARE_STEP * j, PIXEL * x + SHARE_FIRST, SHARE_STEP, SHARE_SIDE);
            for (int i = 0; i < SHARE_SIDE; i++) {
                if (isIn(windings[i])) {
                    in++;
                }
            }
        }
        return in;
    }

    public int spans(int r) throws IndexOutOfBoundsException {
        if (!isInPicture(r)) {
            throw new IndexOutOfBoundsException("no such row");
        }
        return Long.bitCount(firstsOf(rowBits(r)));
    }

    public int span(int r, int k, boolean end) throws IndexOutOfBoundsException {
        if (!isInPicture(r)) {
            throw new IndexOutOfBoundsException("no such row");
        }
        long bits = rowBits(r);
        int x = bitNumber(end ? lastsOf(bits) : firstsOf(bits), k);
        return end && x != NONE ? x + 1 : x;
    }

    public int extent(int what) throws IndexOutOfBoundsException, IllegalStateException {
        if (what < 0 || what > 3) {
            throw new IndexOutOfBoundsException("no such extent");
        }
        if (contourCount == 0) {
            throw new IllegalStateException("there are no contours");
        }
        boolean least = what < 2;
        int extent = least ? GREATEST_TOLD : LEAST_TOLD;
        for (int i = 0; i < openFrom; i++) {
            Piece piece = pieces[i];
            if (piece != null) {
                int own = piece.bound(what);
                extent = least ? Math.min(extent, own) : Math.max(extent, own);
            }
        }
        return extent;
    }

    private static boolean canBeTold(long coordinate) {
        return coordinate >= LEAST_TOLD && coordinate <= GREATEST_TOLD;
    }

    private static boolean canBeAsked(int coordinate) {
        return coordinate >= LEAST_ASKED && coordinate <= GREATEST_ASKED;
    }

    private static boolean isInPicture(int index) {
        return index >= 0 && index < SIDE;
    }

    private static int bottomOf(int r) {
        return PIXEL * (SIDE - 1 - r);
    }

    /**
     * What point i of the open contour, taken as a ring, brings with it: a point that is not on, its curve; one that is
     * on, the line to the next if that is on too. A point that is on before one that is not brings nothing, since that
     * one brings the curve. So no outline has more pieces than points.
     */
    private Piece pieceOf(int i) {
        int before = i > openFrom ? i - 1 : pointCount - 1;
        int after = i + 1 < pointCount ? i + 1 : openFrom;
        int x = xs[i];
        int y = ys[i];
        if (!ons[i]) {
            return new Piece(curveEnd(xs, i, before), curveEnd(ys, i, before), x, y,
                    curveEnd(xs, i, after), curveEnd(ys, i, after), false);
        }
        if (ons[after]) {
            return new Piece(x, y, x, y, xs[after], ys[after], true);
        }
        return null;
    }

    /** Where the curve of point i ends on the side of its neighbour: there, or half-way if that is not on either. */
    private int curveEnd(int[] coordinates, int i, int neighbour) {
        if (ons[neighbour]) {
            return coordinates[neighbour];
        }
        return Math.floorDiv(coordinates[i] + coordinates[neighbour], 2);
    }

    private int countPieces(boolean lines) {
        int found = 0;
        for (int i = 0; i < openFrom; i++) {
            Piece piece = pieces[i];
            if (piece != null && piece.line == lines) {
                found++;
            }
        }
        return found;
    }

    private int countSet() {
        int found = 0;
        for (int r = 0; r < SIDE; r++) {
            found += Long.bitCount(rowBits(r));
        }
        return found;
    }

    private boolean isIn(int winding) {
        return byParity ? (winding & 1) != 0 : winding != 0;
    }

    private long rowBits(int r) {
        wind(bottomOf(r) + MIDDLE, MIDDLE, PIXEL, SIDE);
        long bits = 0;
        for (int x = 0; x < SIDE; x++) {
            if (isIn(windings[x])) {
                bits |= 1L << x;
            }
        }
        return bits;
    }

    /** The pixels of a row with which its spans begin. */
    private static long firstsOf(long bits) {
        return bits & ~(bits << 1);
    }

    /** The pixels of a row with which its spans end. */
    private static long lastsOf(long bits) {
        return bits & ~(bits >>> 1);
    }

    private static int bitNumber(long bits, int k) {
        int seen = 0;
        for (int x = 0; x < SIDE; x++) {
            if ((bits >>> x & 1) != 0) {
                if (seen == k) {
                    return x;
                }
                seen++;
            }
        }
        return NONE;
    }

    /** Sets windings 0 .. many - 1, many at most a row, to those of the points (first + step * i, y). */
    private void wind(int y, int first, int step, int many) {
        Arrays.fill(windings, 0);
        for (int i = 0; i < openFrom; i++) {
            Piece piece = pieces[i];
            if (piece != null) {
                if (piece.crosses(y, true)) {
                    place.take(piece, y, true);
                    windings[place.pointsLeft(first, step, many)]++;
                }
                if (piece.crosses(y, false)) {
                    place.take(piece, y, false);
                    windings[place.pointsLeft(first, step, many)]--;
                }
            }
        }
        // a place counts for the first point that it is not to the right of and for all behind that
        for (int i = 1; i < many; i++) {
            windings[i] += windings[i - 1];
        }
    }

    /**
     * A line from P to R (its Q is P), or a curve from P to R with Q between. Its points are
     * (squareX t t + onceX t + px, squareY t t + onceY t + py) for t from 0 to 1.
     */
    private static final class Piece {
        final boolean line;
        final int squareX;
        final int onceX;
        final int squareY;
        final int onceY;
        int px;
        int py;
        int qx;
        int qy;
        int rx;
        int ry;

        Piece(int px, int py, int qx, int qy, int rx, int ry, boolean line) {
            this.line = line;
            this.px = px;
            this.py = py;
            this.qx = qx;
            this.qy = qy;
            this.rx = rx;
            this.ry = ry;
            squareX = line ? 0 : px - 2 * qx + rx;
            squareY = line ? 0 : py - 2 * qy + ry;
            onceX = line ? rx - px : 2 * (qx - px);
            onceY = line ? ry - py : 2 * (qy - py);
        }

        void shift(int dx, int dy) {
            px += dx;
            py += dy;
            qx += dx;
            qy += dy;
            rx += dx;
            ry += dy;
        }

        /** Whether it goes from not above y to above y (upwards) somewhere, or from above y to not above y. */
        boolean crosses(int y, boolean upwards) {
            boolean beginsAbove = py > y;
            boolean endsAbove = ry > y;
            if (beginsAbove != endsAbove) {
                return endsAbove == upwards;
            }
            // From one side it comes back to it only round a Q on the other. Where it but touches y, the two places
            // are one behind the other and take each other away: so they are left out.
            return (qy > y) != beginsAbove && underRoot(y) > 0;
        }

        /** What stands under the root in the two solutions of squareY t t + onceY t + py = y. */
        long underRoot(int y) {
            return (long) onceY * onceY - 4L * squareY * (py - y);
        }

        /** The whole number next outside of it on a side: as the face's extents, 0 .. 3. */
        int bound(int what) {
            switch (what) {
                case 0:
                    return floorOfLeast(px, qx, rx);
                case 1:
                    return floorOfLeast(py, qy, ry);
                case 2:
                    return -floorOfLeast(-px, -qx, -rx);
                default:
                    return -floorOfLeast(-py, -qy, -ry);
            }
        }

        private static int floorOfLeast(int p, int q, int r) {
            int square = p - 2 * q + r;
            if (q < p && q < r && square > 0) {
                return p + Math.floorDiv(-(q - p) * (q - p), square);
            }
            return Math.min(p, r);
        }
    }

    /**
     * Where a piece crosses a height: its x is (whole + factor * the root of under) / scale, in whole numbers, scale
     * above 0. With the coordinates' limits whole and what it is compared with stay below 2 to the 49th, factor and
     * scale below 2 to the 31st, and under below 2 to the 30th.
     */
    private static final class Place {
        private static final int MOST_ROOT = 32768;

        private long whole;
        private long factor;
        private long under;
        private long scale;

        /**
         * The place of a piece that crosses y upwards, or downwards. With c = py - y, its t solves
         * squareY t t + onceY t + c = 0; of the two solutions the one with the root added is where the slope of y,
         * which is that root, is upwards, whatever the sign of squareY.
         */
        void take(Piece piece, int y, boolean upwards) {
            long squareX = piece.squareX;
            long onceX = piece.onceX;
            long squareY = piece.squareY;
            long onceY = piece.onceY;
            long c = piece.py - y;
            if (squareY == 0) {
                factor = 0;
                under = 0;
                scale = onceY * onceY;
                whole = squareX * c * c - onceX * onceY * c + scale * piece.px;
            } else {
                // the equation of t turns squareY x into a t + b; so x needs the root but once
                long a = squareY * onceX - squareX * onceY;
                factor = upwards ? a : -a;
                under = piece.underRoot(y);
                scale = 2 * squareY * squareY;
                whole = -a * onceY - 2 * squareY * squareX * c + scale * piece.px;
            }
        }

        /** How many of the points first + step * i, i = 0 .. many - 1, this is to the right of. */
        int pointsLeft(int first, int step, int many) {
            int left = 0;
            for (int more = SIDE; more > 0; more /= 2) {
                if (left + more <= many && isRightOf(first + step * (left + more - 1))) {
                    left += more;
                }
            }
            return left;
        }

        private boolean isRightOf(int x) {
            long rest = whole - scale * x;
            if (factor == 0 || under <= 0) {
                return rest > 0;
            }
            if (factor > 0) {
                return rest >= 0 || compareToRoot(-rest, factor) < 0;
            }
            return rest > 0 && compareToRoot(rest, -factor) > 0;
        }

        /**
         * Below, at or above 0 as n is to times * the root of under, all above 0. The squares would not fit a long; so
         * n / times is taken as q + r / times, and its square less under, times times, as r r / times - k.
         */
        private long compareToRoot(long n, long times) {
            if (times <= 0) {
                return 1;
            }
            long q = n / times;
            long r = n % times;
            if (q > MOST_ROOT) {
                return 1;
            }
            long k = (under - q * q) * times - 2 * q * r;
            if (k < 0) {
                return 1;
            }
            if (k > r) {
                // r is below times, and so r r / times not above r
                return -1;
            }
            return r * r - k * times;
        }
    }
}
