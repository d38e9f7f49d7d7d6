import java.util.ArrayList;
import java.util.List;

/**
 * "A call that throws changes nothing": of two objects that were told the same, one is made to throw; afterwards both
 * answer everything alike, and go on alike. So for each exception that a promise lists, in each state that brings it.
 */
public final class RefusalTest {
    private interface Tell {
        void to(CurveRaster raster);
    }

    private interface Refused {
        void by(CurveRaster raster);
    }

    /** Its steps are moves that go for its first points and not for a later one. */
    private record State(String name, Tell tell, int[]... steps) {
    }

    private record Wrong(String name, Class<? extends RuntimeException> due, Refused refused) {
    }

    private static final Due DUE = new Due();
    private static final int MIN = Integer.MIN_VALUE;
    private static final int MAX = Integer.MAX_VALUE;
    private static final Class<IllegalArgumentException> ARGUMENT = IllegalArgumentException.class;
    private static final Class<IllegalStateException> STATE = IllegalStateException.class;
    private static final Class<IndexOutOfBoundsException> INDEX = IndexOutOfBoundsException.class;

    public static void main(String[] args) {
        DUE.about("A call that throws changes nothing");
        State fresh = new State("new", raster -> { });
        State open = new State("open", RefusalTest::tellOpen, new int[] {92, 5}, new int[] {5, 192});
        State closed = new State("closed", RefusalTest::tellClosed, new int[] {-193, 5}, new int[] {5, -93});
        State both = new State("closed and open", RefusalTest::tellBoth, new int[] {92, 5}, new int[] {5, -93});
        State parity = new State("by parity", RefusalTest::tellByParity, new int[] {-193, 5}, new int[] {5, 192});
        State cleared = new State("cleared", RefusalTest::tellCleared);
        State contours = new State("64 contours", RefusalTest::tell64, new int[] {1, 5}, new int[] {-5, -1});
        State more = new State("65 contours, one open", RefusalTest::tell65, new int[] {-8186, 0}, new int[] {0, -1});
        State full = new State("512 points, open", raster -> tell512(raster, false), new int[] {5, 4615});
        State fullClosed = new State("512 points, closed", raster -> tell512(raster, true), new int[] {5, 4615});
        State[] all = {fresh, open, closed, both, parity, cleared, contours, more, full, fullClosed};
        for (State state : all) {
            refuseAll(state, whateverIsTold());
        }
        for (State state : new State[] {fresh, closed, cleared, contours, more, fullClosed}) {
            refuseAll(state, List.of(new Wrong("close()", STATE, CurveRaster::close)));
        }
        for (State state : new State[] {fresh, open, cleared, full}) {
            refuseAll(state, noContours());
        }
        for (State state : new State[] {full, fullClosed}) {
            refuseAll(state, noRoom());
        }
        for (State state : new State[] {open, closed, both, parity, contours, more, full, fullClosed}) {
            refuseAll(state, moves(state));
        }
        DUE.end("RefusalTest");
    }

    private static void tellOpen(CurveRaster raster) {
        // the last point is the one that is in the way of moves, to the right and upwards
        Due.points(raster, 0, 0, 1, 300, 2000, 0, 700, 2100, 0, 1000, 0, 1, 8100, 8000, 0);
    }

    private static void tellClosed(CurveRaster raster) {
        Due.box(raster, 640, 640, 1920, 1920);
        Due.box(raster, 1000, 1000, 1500, 1500);
        Due.contour(raster, 0, 0, 0, 4000, 100, 1, 2000, 3000, 0, -8000, -8100, 1);
    }

    private static void tellBoth(CurveRaster raster) {
        tellClosed(raster);
        tellOpen(raster);
    }

    private static void tellByParity(CurveRaster raster) {
        tellBoth(raster);
        raster.parity(true);
    }

    private static void tellCleared(CurveRaster raster) {
        tellBoth(raster);
        raster.clear();
    }

    private static void tell64(CurveRaster raster) {
        Due.box(raster, 640, 640, 1920, 1920);
        for (int i = 1; i < 63; i++) {
            Due.contour(raster, 10 * i, 20 * i, i % 2);
        }
        Due.contour(raster, 8191, -8192, 1);
    }

    private static void tell65(CurveRaster raster) {
        tell64(raster);
        Due.points(raster, 5, 6, 1, -7, 8, 0);
    }

    private static void tell512(CurveRaster raster, boolean closed) {
        for (int i = 0; i < 512; i++) {
            raster.add(i * i % 4000, i * 7, i % 3 == 0);
        }
        if (closed) {
            raster.close();
        }
    }

    private static List<Wrong> whateverIsTold() {
        List<Wrong> list = new ArrayList<>();
        for (int value : new int[] {MIN, -8193, 8192, MAX}) {
            list.add(new Wrong("add(" + value + ", 0, true)", ARGUMENT, raster -> raster.add(value, 0, true)));
            list.add(new Wrong("add(0, " + value + ", false)", ARGUMENT, raster -> raster.add(0, value, false)));
        }
        for (int value : new int[] {MIN, -16385, 16384, MAX}) {
            list.add(new Wrong("winding(" + value + ", 900)", ARGUMENT, raster -> raster.winding(value, 900)));
            list.add(new Wrong("winding(900, " + value + ")", ARGUMENT, raster -> raster.winding(900, value)));
        }
        for (int index : new int[] {MIN, -1, 64, MAX}) {
            list.add(new Wrong("row(" + index + ")", INDEX, raster -> raster.row(index)));
            list.add(new Wrong("share(" + index + ", 40)", INDEX, raster -> raster.share(index, 40)));
            list.add(new Wrong("share(15, " + index + ")", INDEX, raster -> raster.share(15, index)));
            list.add(new Wrong("spans(" + index + ")", INDEX, raster -> raster.spans(index)));
            list.add(new Wrong("span(" + index + ", 0, false)", INDEX, raster -> raster.span(index, 0, false)));
            list.add(new Wrong("span(" + index + ", -1, true)", INDEX, raster -> raster.span(index, -1, true)));
        }
        for (int what : new int[] {MIN, -1, 4, MAX}) {
            list.add(new Wrong("extent(" + what + ")", INDEX, raster -> raster.extent(what)));
        }
        return list;
    }

    private static List<Wrong> noContours() {
        List<Wrong> list = new ArrayList<>();
        for (int side = 0; side < 4; side++) {
            int what = side;
            list.add(new Wrong("extent(" + what + ")", STATE, raster -> raster.extent(what)));
        }
        return list;
    }

    private static List<Wrong> noRoom() {
        List<Wrong> list = new ArrayList<>();
        list.add(new Wrong("add(0, 0, true)", STATE, raster -> raster.add(0, 0, true)));
        list.add(new Wrong("add(-8192, 8191, false)", STATE, raster -> raster.add(-8192, 8191, false)));
        return list;
    }

    private static List<Wrong> moves(State state) {
        int[][] steps = {{MIN, 0}, {MAX, 0}, {0, MIN}, {0, MAX}, {MAX, MIN}, {16384, 1}, {1, 16384}, {-16384, -1},
            {-1, -16384}};
        List<Wrong> list = new ArrayList<>();
        addMoves(list, steps);
        addMoves(list, state.steps());
        return list;
    }

    private static void addMoves(List<Wrong> list, int[][] steps) {
        for (int[] step : steps) {
            list.add(new Wrong("move(" + step[0] + ", " + step[1] + ")", ARGUMENT,
                    raster -> raster.move(step[0], step[1])));
        }
    }

    private static void refuseAll(State state, List<Wrong> wrongs) {
        for (Wrong wrong : wrongs) {
            String text = state.name() + ": " + wrong.name();
            CurveRaster made = new CurveRaster();
            CurveRaster twin = new CurveRaster();
            state.tell().to(made);
            state.tell().to(twin);
            DUE.refused(text, wrong.due(), () -> {
                wrong.refused().by(made);
                return 0;
            });
            alike(text, allOf(made), allOf(twin));
            alike(text + ", gone on", goneOn(made), goneOn(twin));
        }
    }

    private static void alike(String text, List<String> got, List<String> want) {
        for (int i = 0; i < want.size(); i++) {
            DUE.due(text + ", then " + got.get(i) + " for " + want.get(i), got.get(i).equals(want.get(i)), true);
        }
    }

    private static void ask(List<String> answers, String call, Due.Call made) {
        String answer;
        try {
            answer = String.valueOf(made.answer());
        } catch (RuntimeException e) {
            answer = e.getClass().getSimpleName();
        }
        answers.add(call + ": " + answer);
    }

    /** All that can be asked without changing anything, on some of the points. */
    private static List<String> allOf(CurveRaster raster) {
        List<String> answers = new ArrayList<>();
        for (int i = 0; i <= 4; i++) {
            int what = i;
            ask(answers, "count(" + what + ")", () -> raster.count(what));
            ask(answers, "extent(" + what + ")", () -> raster.extent(what));
        }
        for (int i = 0; i < 64; i++) {
            int r = i;
            ask(answers, "row(" + r + ")", () -> raster.row(r));
        }
        for (int i = 20; i < 64; i += 9) {
            int r = i;
            ask(answers, "share(15, " + r + ")", () -> raster.share(15, r));
            ask(answers, "spans(" + r + ")", () -> raster.spans(r));
            ask(answers, "span(" + r + ", 0, true)", () -> raster.span(r, 0, true));
        }
        for (int i = -8193; i <= 8191; i += 1024) {
            int y = i;
            ask(answers, "winding(800, " + y + ")", () -> raster.winding(800, y));
        }
        return answers;
    }

    /** Changes, each of them seen: the open contour's points among them. */
    private static List<String> goneOn(CurveRaster raster) {
        List<String> answers = new ArrayList<>();
        ask(answers, "add(100, 2000, false)", () -> raster.add(100, 2000, false));
        ask(answers, "close()", raster::close);
        answers.addAll(allOf(raster));
        ask(answers, "move(1, 1)", () -> {
            raster.move(1, 1);
            return 0;
        });
        ask(answers, "extent(0)", () -> raster.extent(0));
        ask(answers, "parity(true)", () -> raster.parity(true) ? 1 : 0);
        ask(answers, "drop()", raster::drop);
        ask(answers, "close()", raster::close);
        ask(answers, "clear()", raster::clear);
        ask(answers, "add(1, 1, true)", () -> raster.add(1, 1, true));
        return answers;
    }
}
