/** Promise 28: routeStep. Which route is the fastest is tested in Promise27RouteTimeTest. */
public final class Promise28RouteStepTest {
    public static void main(String[] args) {
        steps();
        rows();
        columns();
        numbers();
        answers();
        noStrips();
        Due.end();
    }

    private static Survey two() {
        return new Survey().with("addStrip", 1, 0, 9, 3).with("addStrip", 4, 0, 9, 3);
    }

    private static void steps() {
        Due.sentence("Returns one step of the fastest route (see routeTime), encoded as 2 * strip,"
                + " plus 1 if the strip is flown westbound.");
        two().unchangedBy(0, "routeStep", 0, 0, 0).unchangedBy(3, "routeStep", 0, 0, 1);
        two().unchangedBy(1, "routeStep", 0, 9, 0).unchangedBy(2, "routeStep", 0, 9, 1);
        two().unchangedBy(2, "routeStep", 5, 0, 0).unchangedBy(1, "routeStep", 5, 0, 1);
        two().unchangedBy(3, "routeStep", 5, 9, 0).unchangedBy(0, "routeStep", 5, 9, 1);
        // Each step is of the route that is fastest in the end, whether or not its time was asked:
        // from (2, 3) strip 1 is the nearest, but is flown second.
        Survey x = new Survey().with("addStrip", 2, 0, 0, 1).with("addStrip", 2, 4, 4, 1)
                .with("addStrip", 2, 9, 9, 1);
        x.unchangedBy(0, "routeStep", 2, 3, 0).unchangedBy(2, "routeStep", 2, 3, 1)
                .unchangedBy(4, "routeStep", 2, 3, 2);
        // What was found for other strips, winds or bases has no part in it.
        Survey y = two().due(340, "routeTime", 0, 0).with("setSpeed", 50, 40, 0)
                .due(0, "routeStep", 0, 0, 0).due(2, "routeStep", 0, 0, 1);
        y.with("removeStrip", 1).with("addStrip", 0, 9, 9, 1).due(0, "routeStep", 1, 0, 0)
                .due(2, "routeStep", 1, 0, 1).due(2, "routeStep", 0, 9, 0)
                .due(0, "routeStep", 0, 9, 1);
        Survey full = new Survey().with("resize", 8, 11);
        for (int row = 0; row < 8; row++) {
            full.with("addStrip", row, 0, 10, 1);
        }
        Routes.due(full, 0, 0, 1350, 0, 3, 4, 7, 8, 11, 12, 15);
    }

    private static void rows() {
        Due.sentence("`baseRow`: row of the base");
        for (int row : Ints.outside(0, 5)) {
            two().refused(-1, "routeStep", row, 0, 0);
        }
    }

    private static void columns() {
        Due.sentence("`baseColumn`: column of the base");
        for (int column : Ints.outside(0, 9)) {
            two().refused(-1, "routeStep", 0, column, 0);
        }
    }

    private static void numbers() {
        Due.sentence("`k`: number of the step, from 0");
        int[] negative = {-1, -2, Integer.MIN_VALUE, Integer.MIN_VALUE + 1};
        for (int k : negative) {
            two().refused(-4, "routeStep", 0, 0, k);
        }
    }

    private static void answers() {
        Due.sentence("Returns the encoded step; OUTSIDE_TERRAIN; BAD_VALUE if k is negative; NONE"
                + " if there are k or fewer strips.");
        int[] tooGreat = {2, 3, 8, 16, 256, Integer.MAX_VALUE, Integer.MAX_VALUE - 1, 1 << 28};
        for (int k : tooGreat) {
            two().refused(-6, "routeStep", 0, 0, k);
            two().refused(-1, "routeStep", 6, 0, k);
        }
        two().refused(-1, "routeStep", 0, 10, -1).refused(-1, "routeStep", -1, 0, -1);
        Survey full = new Survey();
        for (int strip = 0; strip < 8; strip++) {
            full.with("addStrip", 2, strip, strip, 1);
        }
        full.unchangedBy(14, "routeStep", 2, 0, 7).refused(-6, "routeStep", 2, 0, 8);
    }

    private static void noStrips() {
        Survey x = new Survey();
        x.refused(-6, "routeStep", 0, 0, 0).refused(-6, "routeStep", 5, 9, 7);
        x.refused(-4, "routeStep", 0, 0, -1);
        x.refused(-1, "routeStep", 6, 0, 0).refused(-1, "routeStep", 0, 10, -1);
    }
}
