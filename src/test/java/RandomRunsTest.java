import java.util.Random;

/** Long runs of calls, the same each time, on the class and on the Reference: all promises together. */
public final class RandomRunsTest {
    private static final int RUNS = 160;
    private static final int CALLS = 512;

    private final Due due = new Due();
    private final Random random;
    private final CurveRaster raster = new CurveRaster();
    private final Reference reference = new Reference();
    private final String name;
    /** The coordinates are made in one of these ways in a run. */
    private final int manner;
    /** How many of a hundred calls add a point, and close a contour. */
    private final int adds;
    private final int closes;

    private RandomRunsTest(int seed) {
        random = new Random(seed);
        name = "run " + seed + ", ";
        manner = seed % 5;
        adds = seed % 7 == 6 ? 95 : 30;
        closes = seed % 7 == 6 ? 3 : 12;
    }

    public static void main(String[] args) {
        Due all = new Due();
        for (int seed = 0; seed < RUNS; seed++) {
            RandomRunsTest run = new RandomRunsTest(seed);
            for (int call = 0; call < CALLS; call++) {
                run.callOnce(call);
            }
            all.due("wrong answers of run " + seed, run.due.wrongOnes(), 0);
        }
        all.end("RandomRunsTest");
    }

    private void callOnce(int call) {
        int choice = random.nextInt(100);
        if (choice < adds) {
            addPoint(call);
        } else if (choice < adds + closes) {
            same(call, "close()", raster::close, reference::close);
        } else if (random.nextInt(40) == 0) {
            changeMuch(call);
        } else {
            ask(call);
        }
    }

    private void addPoint(int call) {
        int x = random.nextInt(60) == 0 ? random.nextInt(20000) - 10000 : coordinate();
        int y = random.nextInt(60) == 0 ? random.nextInt(20000) - 10000 : coordinate();
        boolean on = random.nextInt(5) < 2;
        same(call, "add(" + x + ", " + y + ", " + on + ")", () -> raster.add(x, y, on), () -> reference.add(x, y, on));
    }

    private void changeMuch(int call) {
        switch (random.nextInt(3)) {
            case 0:
                same(call, "drop()", raster::drop, reference::drop);
                break;
            case 1:
                same(call, "clear()", raster::clear, reference::clear);
                break;
            default:
                boolean is = random.nextBoolean();
                same(call, "parity(" + is + ")", () -> raster.parity(is) ? 1 : 0, () -> reference.parity(is) ? 1 : 0);
        }
    }

    private void ask(int call) {
        int r = random.nextInt(30) == 0 ? random.nextInt(200) - 100 : random.nextInt(64);
        int x = random.nextInt(30) == 0 ? random.nextInt(200) - 100 : random.nextInt(64);
        switch (random.nextInt(12)) {
            case 0:
                int what = random.nextInt(8) == 0 ? random.nextInt(12) - 4 : random.nextInt(4);
                same(call, "count(" + what + ")", () -> raster.count(what), () -> reference.count(what));
                break;
            case 1:
                same(call, "row(" + r + ")", () -> raster.row(r), () -> reference.row(r));
                break;
            case 2:
                same(call, "share(" + x + ", " + r + ")", () -> raster.share(x, r), () -> reference.share(x, r));
                break;
            case 3:
                same(call, "spans(" + r + ")", () -> raster.spans(r), () -> reference.spans(r));
                break;
            case 4:
                int k = random.nextInt(6) - 1;
                boolean end = random.nextBoolean();
                same(call, "span(" + r + ", " + k + ", " + end + ")", () -> raster.span(r, k, end),
                        () -> reference.span(r, k, end));
                break;
            case 5:
                int side = random.nextInt(6) - 1;
                same(call, "extent(" + side + ")", () -> raster.extent(side), () -> reference.extent(side));
                break;
            case 6:
                moveAll(call);
                break;
            default:
                askWinding(call);
        }
    }

    private void moveAll(int call) {
        int dx = random.nextInt(10) == 0 ? random.nextInt() : random.nextInt(65) - 32;
        int dy = random.nextInt(10) == 0 ? random.nextInt() : random.nextInt(65) - 32;
        same(call, "move(" + dx + ", " + dy + ")", () -> {
            raster.move(dx, dy);
            return 0;
        }, () -> {
            reference.move(dx, dy);
            return 0;
        });
    }

    private void askWinding(int call) {
        int x = near(true);
        int y = near(false);
        same(call, "winding(" + x + ", " + y + ")", () -> raster.winding(x, y), () -> reference.winding(x, y));
    }

    private int coordinate() {
        switch (manner) {
            case 0:
                return random.nextInt(9) - 4;
            case 1:
                return 32 * random.nextInt(128);
            case 2:
                return random.nextInt(4) == 0 ? (random.nextBoolean() ? -8192 : 8191) : random.nextInt(16384) - 8192;
            case 3:
                return random.nextInt(4096);
            default:
                return 2000 + 8 * random.nextInt(12);
        }
    }

    /** A coordinate at or beside one that the outline has, if not any. */
    private int near(boolean ofX) {
        int much = random.nextInt(20);
        if (much == 0) {
            return random.nextInt(40000) - 20000;
        }
        if (much < 8 || reference.contours.isEmpty()) {
            return coordinate();
        }
        var contour = reference.contours.get(random.nextInt(reference.contours.size()));
        Reference.Point point = contour.get(random.nextInt(contour.size()));
        return (ofX ? point.x : point.y) + random.nextInt(3) - 1;
    }

    private void same(int call, String text, Due.Call got, Due.Call want) {
        due.same(name + "call " + call + ": " + text, got, want);
    }
}
