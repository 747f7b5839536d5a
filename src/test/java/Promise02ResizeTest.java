/** Promise 2: resize. */
public final class Promise02ResizeTest {
    public static void main(String[] args) {
        flattens();
        removesStrips();
        keepsTheAircraft();
        rows();
        columns();
        answers();
        bothWrong();
        Due.end();
    }

    private static Survey busy() {
        return new Survey().with("resize", 4, 9).with("raiseHill", 2, 5, 3, 700)
                .with("setAltitude", 777).with("setFields", 9, 8).with("setCrab", -7)
                .with("setSpeed", 60, 5, 4).with("addStrip", 0, 1, 8, 2).with("addStrip", 3, 2, 2, 1);
    }

    private static void flattens() {
        Due.sentence("Replaces the terrain by a flat one");
        Survey x = new Survey().with("resize", 10, 16);
        for (int row = 0; row < 10; row += 3) {
            for (int column = 0; column < 16; column += 5) {
                x.with("raiseHill", row, column, 5, 500);
            }
        }
        // The hills are gone even where a smaller terrain came between.
        x.due(12, "resize", 3, 4).due(160, "resize", 10, 16);
        for (int row = 0; row < 10; row++) {
            for (int column = 0; column < 16; column++) {
                x.due(0, "height", row, column);
            }
        }
        x.with("setHeight", 1, 1, 3).due(160, "resize", 10, 16).due(0, "height", 1, 1);
    }

    private static void removesStrips() {
        Due.sentence("and removes all strips.");
        Survey x = busy().due(36, "resize", 4, 9);
        x.due(0, "stripCount").due(-2, "photoCount", 0).due(-2, "removeStrip", 0);
        x.due(36, "gapCount", 1).due(0, "routeTime", 0, 0).due(0, "addStrip", 0, 0, 8, 1);
        Survey full = new Survey();
        for (int strip = 0; strip < 8; strip++) {
            full.with("addStrip", 0, 0, 9, 1);
        }
        full.due(60, "resize", 6, 10).due(0, "stripCount");
        for (int strip = 0; strip < 8; strip++) {
            full.due(strip, "addStrip", 0, 0, 9, 1);
        }
        full.due(-5, "addStrip", 0, 0, 9, 1);
    }

    private static void keepsTheAircraft() {
        Due.sentence("Altitude, fields, crab, airspeed, tailwind and turn time stay as they are.");
        busy().due(160, "resize", 10, 16).due(777, "setAltitude", 1000)
                .due(0, "setFields", 9, 8).due(0, "setCrab", -7).due(0, "setSpeed", 60, 5, 4);
        new Survey().due(12, "resize", 3, 4).due(1000, "setAltitude", 1000)
                .due(0, "setFields", 3, 2).due(0, "setCrab", 0).due(0, "setSpeed", 100, 0, 60);
    }

    private static void rows() {
        Due.sentence("`rows`: number of rows, from 3 to 10");
        Survey x = busy();
        for (int rows : Ints.range(3, 10)) {
            x.copy().due(rows * 5, "resize", rows, 5).due(0, "height", rows - 1, 0)
                    .due(-1, "height", rows, 0);
        }
        for (int rows : Ints.outside(3, 10)) {
            x.refused(-4, "resize", rows, 5);
        }
    }

    private static void columns() {
        Due.sentence("`columns`: number of columns, from 4 to 16");
        Survey x = busy();
        for (int columns : Ints.range(4, 16)) {
            x.copy().due(5 * columns, "resize", 5, columns).due(0, "height", 0, columns - 1)
                    .due(-1, "height", 0, columns);
        }
        for (int columns : Ints.outside(4, 16)) {
            x.refused(-4, "resize", 5, columns);
        }
    }

    private static void answers() {
        Due.sentence("Returns the number of cells; BAD_VALUE.");
        for (int rows : Ints.range(3, 10)) {
            for (int columns : Ints.range(4, 16)) {
                new Survey().due(rows * columns, "resize", rows, columns)
                        .due(rows * columns, "gapCount", 1);
            }
        }
    }

    private static void bothWrong() {
        Survey x = busy();
        int[][] wrong = {{2, 3}, {11, 17}, {3, 3}, {2, 4}, {10, 17}, {11, 16}, {0, 0}, {-3, -4}};
        for (int[] w : wrong) {
            x.refused(-4, "resize", w[0], w[1]);
        }
    }
}
