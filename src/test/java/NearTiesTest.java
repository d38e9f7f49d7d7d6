import java.util.Random;

/**
 * Promise 9 where it is hardest: places that miss a whole number by next to nothing, or meet it. Doubles look for them;
 * the Reference says what is due.
 */
public final class NearTiesTest {
    private static final Due DUE = new Due();
    private static final double NEXT_TO_NOTHING = 1e-6;

    public static void main(String[] args) {
        Random random = new Random(7);
        for (int i = 0; i < 1_500_000; i++) {
            int[] curve = new int[6];
            boolean great = i % 3 == 0;
            for (int k = 0; k < 6; k++) {
                curve[k] = great ? random.nextInt(16384) - 8192 : random.nextInt(2048);
            }
            int y = great ? random.nextInt(16384) - 8192 : random.nextInt(2048);
            askIfNear(curve, y, 1, NEXT_TO_NOTHING);
            askIfNear(curve, y, -1, NEXT_TO_NOTHING);
        }
        askGreatestCurves();
        for (int i = 0; i < 4000; i++) {
            int[] curve = new int[6];
            for (int k = 0; k < 6; k++) {
                curve[k] = random.nextInt(13) - 6;
            }
            askRound(curve, random.nextInt(13) - 6, random.nextInt(13) - 6);
        }
        DUE.end("NearTiesTest");
    }

    /** All curves from corner to corner of what can be told: the greatest numbers that come up inside. */
    private static void askGreatestCurves() {
        int[] heights = {-8192, -8191, -5000, -1, 0, 1, 4095, 4096, 8189, 8190};
        for (int corners = 0; corners < 64; corners++) {
            int[] curve = new int[6];
            for (int k = 0; k < 6; k++) {
                curve[k] = (corners >> k & 1) == 0 ? -8192 : 8191;
            }
            for (int y : heights) {
                askIfNear(curve, y, 1, 1);
                askIfNear(curve, y, -1, 1);
                askRound(curve, -16383, y);
                askRound(curve, 16382, y);
            }
        }
    }

    private static void askIfNear(int[] curve, int y, int sense, double nearness) {
        double a = curve[1] - 2.0 * curve[3] + curve[5];
        double b = 2.0 * (curve[3] - curve[1]);
        double under = b * b - 4 * a * (curve[1] - y);
        if (a == 0 || under < 0) {
            return;
        }
        double t = (-b + sense * Math.sqrt(under)) / (2 * a);
        if (t < 0 || t > 1) {
            return;
        }
        double x = (1 - t) * (1 - t) * curve[0] + 2 * t * (1 - t) * curve[2] + t * t * curve[4];
        if (Math.abs(x - Math.rint(x)) < nearness) {
            askRound(curve, (int) Math.rint(x), y);
        }
    }

    private static void askRound(int[] curve, int x, int y) {
        CurveRaster raster = Due.outline(curve[0], curve[1], 1, curve[2], curve[3], 0, curve[4], curve[5], 1);
        Reference reference = new Reference();
        reference.add(curve[0], curve[1], true);
        reference.add(curve[2], curve[3], false);
        reference.add(curve[4], curve[5], true);
        reference.close();
        for (int near = x - 1; near <= x + 1; near++) {
            DUE.due(java.util.Arrays.toString(curve) + ": winding(" + near + ", " + y + ")", raster.winding(near, y),
                    reference.winding(near, y));
        }
    }
}
