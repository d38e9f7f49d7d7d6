import java.util.Random;

/**
 * Runs of 512 calls whose arguments are nearly all boundary values, allowed or not, on the class and on the Reference.
 * A run keeps to one of some mixtures of calls, so that many reach 64 contours or points by the hundred.
 */
public final class EdgeRunsTest {
    private static final int RUNS = 80;
    private static final int CALLS = 512;
    private static final int MIN = Integer.MIN_VALUE;
    private static final int MAX = Integer.MAX_VALUE;
    private static final int[] TOLD =
        {-8192, -8191, -4096, -1, 0, 1, 31, 32, 33, 64, 2048, 4064, 4095, 4096, 8190, 8191};
    private static final int[] NOT_TOLD = {MIN, -16384, -8193, 8192, 16384, MAX};
    private static final int[] ASKED = {-16384, -8193, -8192, -1, 0, 1, 32, 33, 4064, 4096, 8190, 8191, 8192, 16383};
    private static final int[] NOT_ASKED = {MIN, -16385, 16384, MAX};
    private static final int[] INDICES = {0, 1, 2, 31, 32, 62, 63};
    private static final int[] NO_INDICES = {MIN, -64, -1, 64, 128, MAX};
    private static final int[] WHATS = {MIN, -1, 0, 1, 2, 3, 4, 5, MAX};
    private static final int[] STEPS = {-16383, -8192, -64, -32, -1, 0, 0, 0, 1, 32, 64, 8191, 16383};
    private static final int[] NO_STEPS = {MIN, -16384, 16384, MAX};

    private final Due due = new Due();
    private final Random random;
    private final CurveRaster raster = new CurveRaster();
    private final Reference reference = new Reference();
    private final String name;
    private final int adds;
    private final int closes;
    private final boolean fewWrong;

    private EdgeRunsTest(int seed) {
        random = new Random(1000 + seed);
        name = "run " + seed + ", ";
        int[][] mixtures = {{25, 10}, {40, 35}, {80, 8}, {10, 5}};
        adds = mixtures[seed % 4][0];
        closes = mixtures[seed % 4][1];
        fewWrong = seed % 3 != 0;
    }

    public static void main(String[] args) {
        Due all = new Due();
        int mostContours = 0;
        for (int seed = 0; seed < RUNS; seed++) {
            EdgeRunsTest run = new EdgeRunsTest(seed);
            for (int call = 0; call < CALLS; call++) {
                run.callOnce(call);
                mostContours = Math.max(mostContours, run.reference.contours.size());
            }
            all.due("wrong answers of run " + seed, run.due.wrongOnes(), 0);
        }
        all.due("the most contours of a run", mostContours, 64);
        all.end("EdgeRunsTest");
    }

    private int pick(int[] right, int[] wrong) {
        boolean isWrong = random.nextInt(fewWrong ? 40 : 8) == 0;
        int[] from = isWrong ? wrong : right;
        return from[random.nextInt(from.length)];
    }

    private void callOnce(int call) {
        int choice = random.nextInt(100);
        String text = name + "call " + call + ": ";
        if (choice < adds) {
            int x = pick(TOLD, NOT_TOLD);
            int y = pick(TOLD, NOT_TOLD);
            boolean on = random.nextBoolean();
            due.same(text + "add(" + x + ", " + y + ", " + on + ")", () -> raster.add(x, y, on),
                    () -> reference.add(x, y, on));
        } else if (choice < adds + closes) {
            due.same(text + "close()", raster::close, reference::close);
        } else if (random.nextInt(12) == 0) {
            change(text);
        } else {
            ask(text);
        }
    }

    private void change(String text) {
        switch (random.nextInt(fewWrong ? 6 : 4)) {
            case 0:
                due.same(text + "drop()", raster::drop, reference::drop);
                break;
            case 1:
                due.same(text + "clear()", raster::clear, reference::clear);
                break;
            default:
                boolean is = random.nextBoolean();
                due.same(text + "parity(" + is + ")", () -> raster.parity(is) ? 1 : 0,
                        () -> reference.parity(is) ? 1 : 0);
        }
    }

    private void ask(String text) {
        int r = pick(INDICES, NO_INDICES);
        int k = pick(INDICES, NO_INDICES);
        int what = WHATS[random.nextInt(WHATS.length)];
        switch (random.nextInt(9)) {
            case 0:
                // the pixels of a whole picture are dear for the Reference
                if (what != 4 || random.nextInt(8) == 0) {
                    due.same(text + "count(" + what + ")", () -> raster.count(what), () -> reference.count(what));
                }
                break;
            case 1:
                due.same(text + "row(" + r + ")", () -> raster.row(r), () -> reference.row(r));
                break;
            case 2:
                due.same(text + "share(" + k + ", " + r + ")", () -> raster.share(k, r), () -> reference.share(k, r));
                break;
            case 3:
                due.same(text + "spans(" + r + ")", () -> raster.spans(r), () -> reference.spans(r));
                break;
            case 4:
                boolean end = random.nextBoolean();
                due.same(text + "span(" + r + ", " + k + ", " + end + ")", () -> raster.span(r, k, end),
                        () -> reference.span(r, k, end));
                break;
            case 5:
                due.same(text + "extent(" + what + ")", () -> raster.extent(what), () -> reference.extent(what));
                break;
            case 6:
                move(text);
                break;
            default:
                int x = pick(ASKED, NOT_ASKED);
                int y = pick(ASKED, NOT_ASKED);
                due.same(text + "winding(" + x + ", " + y + ")", () -> raster.winding(x, y),
                        () -> reference.winding(x, y));
        }
    }

    private void move(String text) {
        int dx = pick(STEPS, NO_STEPS);
        int dy = pick(STEPS, NO_STEPS);
        due.same(text + "move(" + dx + ", " + dy + ")", () -> {
            raster.move(dx, dy);
            return 0;
        }, () -> {
            reference.move(dx, dy);
            return 0;
        });
    }
}
