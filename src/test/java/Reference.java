import java.math.BigDecimal;
import java.math.MathContext;
import java.util.ArrayList;
import java.util.List;

/**
 * The document told a second time, slowly and by other means: the points put in half-way are written out, a curve's
 * crossings are found to 120 digits, and every place is looked for as the document says it, by what is above the height
 * on both sides of it. Two numbers nearer than 10 to the minus 50 are the same one: roots of the coordinates' size
 * cannot come nearer to a whole number without being it.
 */
final class Reference {
    static final class Point {
        int x;
        int y;
        boolean on;

        Point(int x, int y, boolean on) {
            this.x = x;
            this.y = y;
            this.on = on;
        }
    }

    /** From p to r; q is null for a line. */
    record Part(Point p, Point q, Point r) {
    }

    record Crossing(BigDecimal x, int counts) {
    }

    private static final MathContext DIGITS = new MathContext(120);
    private static final BigDecimal NEAR = new BigDecimal("1e-50");
    private static final BigDecimal TWO = BigDecimal.valueOf(2);

    final List<List<Point>> contours = new ArrayList<>();
    List<Point> open = new ArrayList<>();
    boolean parity = false;

    int pointCount() {
        int count = open.size();
        for (List<Point> contour : contours) {
            count += contour.size();
        }
        return count;
    }

    int add(int x, int y, boolean on) {
        if (x < -8192 || x > 8191 || y < -8192 || y > 8191) {
            throw new IllegalArgumentException();
        }
        if (pointCount() == 512) {
            throw new IllegalStateException();
        }
        open.add(new Point(x, y, on));
        return open.size();
    }

    int close() {
        if (open.isEmpty() || contours.size() == 64) {
            throw new IllegalStateException();
        }
        contours.add(open);
        open = new ArrayList<>();
        return contours.size();
    }

    int drop() {
        int count = open.size();
        open.clear();
        return count;
    }

    int clear() {
        int count = contours.size();
        contours.clear();
        open.clear();
        return count;
    }

    void move(int dx, int dy) {
        List<Point> all = new ArrayList<>(open);
        contours.forEach(all::addAll);
        for (Point point : all) {
            long x = (long) point.x + dx;
            long y = (long) point.y + dy;
            if (x < -8192 || x > 8191 || y < -8192 || y > 8191) {
                throw new IllegalArgumentException();
            }
        }
        for (Point point : all) {
            point.x += dx;
            point.y += dy;
        }
    }

    boolean parity(boolean is) {
        boolean was = parity;
        parity = is;
        return was;
    }

    int count(int what) {
        switch (what) {
            case 0:
                return contours.size();
            case 1:
                return pointCount();
            case 2:
                return (int) parts().stream().filter(part -> part.q() == null).count();
            case 3:
                return (int) parts().stream().filter(part -> part.q() != null).count();
            case 4:
                int set = 0;
                for (int r = 0; r < 64; r++) {
                    set += Long.bitCount(row(r));
                }
                return set;
            default:
                return -1;
        }
    }

    int winding(int x, int y) {
        if (x < -16384 || x > 16383 || y < -16384 || y > 16383) {
            throw new IllegalArgumentException();
        }
        return windingOf(x, crossings(y));
    }

    long row(int r) {
        needIndex(r);
        List<Crossing> crossings = crossings(64 * (63 - r) + 32);
        long bits = 0;
        for (int x = 0; x < 64; x++) {
            if (isIn(64 * x + 32, crossings)) {
                bits |= 1L << x;
            }
        }
        return bits;
    }

    int share(int x, int r) {
        needIndex(x);
        needIndex(r);
        int share = 0;
        for (int j = 0; j < 4; j++) {
            List<Crossing> crossings = crossings(64 * (63 - r) + 8 + 16 * j);
            for (int i = 0; i < 4; i++) {
                if (isIn(64 * x + 8 + 16 * i, crossings)) {
                    share++;
                }
            }
        }
        return share;
    }

    int spans(int r) {
        return spanList(r).size();
    }

    int span(int r, int k, boolean end) {
        List<int[]> spans = spanList(r);
        if (k < 0 || k >= spans.size()) {
            return -1;
        }
        return spans.get(k)[end ? 1 : 0];
    }

    int extent(int what) {
        if (what < 0 || what > 3) {
            throw new IndexOutOfBoundsException();
        }
        if (contours.isEmpty()) {
            throw new IllegalStateException();
        }
        boolean least = what < 2;
        BigDecimal found = null;
        for (Part part : parts()) {
            for (BigDecimal value : turningValues(part, what % 2 == 0)) {
                if (found == null || (least ? value.compareTo(found) < 0 : value.compareTo(found) > 0)) {
                    found = value;
                }
            }
        }
        // a value that is whole but for the last digits is whole
        BigDecimal nudged = least ? found.add(NEAR) : found.subtract(NEAR);
        return nudged.setScale(0, least ? java.math.RoundingMode.FLOOR : java.math.RoundingMode.CEILING).intValueExact();
    }

    private static void needIndex(int index) {
        if (index < 0 || index > 63) {
            throw new IndexOutOfBoundsException();
        }
    }

    private List<int[]> spanList(int r) {
        long bits = row(r);
        List<int[]> spans = new ArrayList<>();
        int x = 0;
        while (x < 64) {
            int begin = x;
            while (x < 64 && (bits >>> x & 1) != 0) {
                x++;
            }
            if (x > begin) {
                spans.add(new int[] {begin, x});
            } else {
                x++;
            }
        }
        return spans;
    }

    List<Part> parts() {
        List<Part> parts = new ArrayList<>();
        for (List<Point> contour : contours) {
            List<Point> ring = withHalfWays(contour);
            int first = 0;
            while (!ring.get(first).on) {
                first++;
            }
            int size = ring.size();
            int i = 0;
            while (i < size) {
                Point p = ring.get((first + i) % size);
                Point next = ring.get((first + i + 1) % size);
                if (next.on) {
                    parts.add(new Part(p, null, next));
                    i += 1;
                } else {
                    parts.add(new Part(p, next, ring.get((first + i + 2) % size)));
                    i += 2;
                }
            }
        }
        return parts;
    }

    private static List<Point> withHalfWays(List<Point> contour) {
        List<Point> ring = new ArrayList<>();
        for (int i = 0; i < contour.size(); i++) {
            Point here = contour.get(i);
            Point next = contour.get((i + 1) % contour.size());
            ring.add(here);
            if (!here.on && !next.on) {
                int x = (int) Math.floor((here.x + next.x) / 2.0);
                int y = (int) Math.floor((here.y + next.y) / 2.0);
                ring.add(new Point(x, y, true));
            }
        }
        return ring;
    }

    private boolean isIn(int x, List<Crossing> crossings) {
        int winding = windingOf(x, crossings);
        return parity ? Math.abs(winding) % 2 == 1 : winding != 0;
    }

    private static int windingOf(int x, List<Crossing> crossings) {
        int winding = 0;
        for (Crossing crossing : crossings) {
            if (crossing.x().compareTo(BigDecimal.valueOf(x).add(NEAR)) <= 0) {
                winding += crossing.counts();
            }
        }
        return winding;
    }

    private List<Crossing> crossings(int y) {
        List<Crossing> crossings = new ArrayList<>();
        for (Part part : parts()) {
            // times: 0, the heights' roots between, 1; and what is above the height there and from each to the next
            List<BigDecimal> times = new ArrayList<>();
            times.add(BigDecimal.ZERO);
            times.addAll(roots(part, y));
            times.add(BigDecimal.ONE);
            boolean above = part.p().y > y;
            for (int i = 0; i < times.size(); i++) {
                BigDecimal t = times.get(i);
                boolean atTime = i == 0 ? part.p().y > y : i == times.size() - 1 && part.r().y > y;
                note(crossings, above, atTime, part, t);
                above = atTime;
                if (i + 1 < times.size()) {
                    BigDecimal between = t.add(times.get(i + 1)).divide(TWO, DIGITS);
                    boolean after = value(part, between, false).compareTo(BigDecimal.valueOf(y).add(NEAR)) > 0;
                    note(crossings, above, after, part, t);
                    above = after;
                }
            }
        }
        return crossings;
    }

    private static void note(List<Crossing> crossings, boolean before, boolean after, Part part, BigDecimal t) {
        if (before != after) {
            crossings.add(new Crossing(value(part, t, true), after ? 1 : -1));
        }
    }

    /** The point of a part at t, by halving no formula of its powers: from P to Q and Q to R, and between those. */
    private static BigDecimal value(Part part, BigDecimal t, boolean ofX) {
        BigDecimal p = coordinate(part.p(), ofX);
        BigDecimal r = coordinate(part.r(), ofX);
        if (part.q() == null) {
            return between(p, r, t);
        }
        BigDecimal q = coordinate(part.q(), ofX);
        return between(between(p, q, t), between(q, r, t), t);
    }

    private static BigDecimal between(BigDecimal from, BigDecimal to, BigDecimal t) {
        return from.add(to.subtract(from).multiply(t, DIGITS), DIGITS);
    }

    private static BigDecimal coordinate(Point point, boolean ofX) {
        return BigDecimal.valueOf(ofX ? point.x : point.y);
    }

    /** The times between 0 and 1, both left out, at which the part is at the height, in order. */
    private static List<BigDecimal> roots(Part part, int y) {
        long c = part.p().y - y;
        long b = part.q() == null ? part.r().y - part.p().y : 2L * (part.q().y - part.p().y);
        long a = part.q() == null ? 0 : part.p().y - 2L * part.q().y + part.r().y;
        List<BigDecimal> roots = new ArrayList<>();
        if (a == 0) {
            if (b != 0) {
                keepBetween(roots, BigDecimal.valueOf(-c).divide(BigDecimal.valueOf(b), DIGITS));
            }
            return roots;
        }
        long under = b * b - 4 * a * c;
        if (under < 0) {
            return roots;
        }
        BigDecimal root = BigDecimal.valueOf(under).sqrt(DIGITS);
        BigDecimal one = BigDecimal.valueOf(-b).subtract(root).divide(BigDecimal.valueOf(2 * a), DIGITS);
        BigDecimal other = BigDecimal.valueOf(-b).add(root).divide(BigDecimal.valueOf(2 * a), DIGITS);
        keepBetween(roots, one.min(other));
        if (under > 0) {
            keepBetween(roots, one.max(other));
        }
        return roots;
    }

    private static void keepBetween(List<BigDecimal> roots, BigDecimal t) {
        if (t.compareTo(NEAR) > 0 && t.compareTo(BigDecimal.ONE.subtract(NEAR)) < 0) {
            roots.add(t);
        }
    }

    /** The values at both ends and, if it turns between, there. */
    private static List<BigDecimal> turningValues(Part part, boolean ofX) {
        List<BigDecimal> values = new ArrayList<>();
        values.add(coordinate(part.p(), ofX));
        values.add(coordinate(part.r(), ofX));
        if (part.q() != null) {
            BigDecimal first = coordinate(part.p(), ofX).subtract(coordinate(part.q(), ofX));
            BigDecimal second = coordinate(part.r(), ofX).subtract(coordinate(part.q(), ofX));
            BigDecimal sum = first.add(second);
            if (sum.signum() != 0) {
                BigDecimal t = first.divide(sum, DIGITS);
                if (t.signum() > 0 && t.compareTo(BigDecimal.ONE) < 0) {
                    values.add(value(part, t, ofX));
                }
            }
        }
        return values;
    }
}
