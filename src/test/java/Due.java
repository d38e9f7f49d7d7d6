/** What the tests share: answers compared with those that are due, and short ways to tell an outline. */
final class Due {
    interface Call {
        long answer();
    }

    private int wrong = 0;
    private int asked = 0;
    private String about = "";

    /** The sentence of the document that the answers from here on are due to: printed before one that is wrong. */
    void about(String sentence) {
        about = "[" + sentence + "] ";
    }

    void due(String call, long got, long want) {
        asked++;
        if (got != want) {
            wrong++;
            System.out.println(about + call + " answered " + got + ", due is " + want);
        }
    }

    void due(String call, boolean got, boolean want) {
        due(call, got ? 1 : 0, want ? 1 : 0);
    }

    void refused(String call, Class<? extends RuntimeException> want, Call made) {
        asked++;
        String got;
        try {
            got = "answered " + made.answer();
        } catch (RuntimeException e) {
            if (e.getClass() == want) {
                return;
            }
            got = "threw " + e;
        }
        wrong++;
        System.out.println(about + call + " " + got + ", due is a " + want.getSimpleName());
    }

    /** What one answers, or throws, is due from the other. */
    void same(String call, Call got, Call want) {
        long wanted;
        try {
            wanted = want.answer();
        } catch (RuntimeException e) {
            refused(call, e.getClass(), got);
            return;
        }
        due(call, got.answer(), wanted);
    }

    /** A part of a test: what it throws unforeseen is wrong too, and the parts behind it are still run. */
    void part(Runnable part) {
        try {
            part.run();
        } catch (RuntimeException e) {
            asked++;
            wrong++;
            System.out.println(about + "threw " + e);
        }
    }

    void refusedMove(CurveRaster raster, int dx, int dy) {
        refused("move(" + dx + ", " + dy + ")", IllegalArgumentException.class, () -> {
            raster.move(dx, dy);
            return 0;
        });
    }

    int wrongOnes() {
        return wrong;
    }

    /** Ends the test: with exit code 1 if an answer was not as due, or if none was asked for. */
    void end(String test) {
        System.out.println(test + ": " + (asked - wrong) + " of " + asked + " answers as due");
        if (wrong != 0 || asked == 0) {
            System.exit(1);
        }
    }

    /** Adds points, three numbers each: x, y, and 1 if it is on. */
    static void points(CurveRaster raster, int... numbers) {
        for (int i = 0; i < numbers.length; i += 3) {
            raster.add(numbers[i], numbers[i + 1], numbers[i + 2] == 1);
        }
    }

    static void contour(CurveRaster raster, int... numbers) {
        points(raster, numbers);
        raster.close();
    }

    static CurveRaster outline(int... numbers) {
        CurveRaster raster = new CurveRaster();
        contour(raster, numbers);
        return raster;
    }

    /** A box of lines; upwards on the left, so that the winding in it is 1. */
    static void box(CurveRaster raster, int left, int bottom, int right, int top) {
        contour(raster, left, bottom, 1, left, top, 1, right, top, 1, right, bottom, 1);
    }
}
