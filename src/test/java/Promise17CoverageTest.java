/** Promise 17: coverage. */
public final class Promise17CoverageTest {
    public static void main(String[] args) {
        counts();
        fewestAndMost();
        rows();
        columns();
        answers();
        Due.end();
    }

    private static Survey two() {
        return new Survey().with("addStrip", 2, 0, 9, 1).with("addStrip", 3, 4, 4, 1);
    }

    private static void counts() {
        Due.sentence("Returns the coverage of a cell.");
        two().unchangedBy(8, "coverage", 2, 4).unchangedBy(4, "coverage", 2, 0)
                .unchangedBy(1, "coverage", 5, 4).unchangedBy(0, "coverage", 5, 9);
        // A hill hides cells behind it from the photos before it.
        two().with("setHeight", 2, 2, 999).due(6, "coverage", 2, 3).due(3, "coverage", 2, 1);
    }

    private static void fewestAndMost() {
        new Survey().due(0, "coverage", 0, 0);
        Survey x = new Survey().with("resize", 10, 16).with("setAltitude", 5000)
                .with("setFields", 50, 50);
        for (int strip = 0; strip < 8; strip++) {
            x.with("addStrip", strip, 0, 15, 1).due(16 * (strip + 1), "coverage", 9, 15);
        }
        x.with("setAltitude", 999).with("setHeight", 9, 15, 999).due(0, "coverage", 9, 15);
    }

    private static void rows() {
        Due.sentence("`row`: row of the cell");
        for (int row : Ints.outside(0, 5)) {
            two().refused(-1, "coverage", row, 4);
        }
    }

    private static void columns() {
        Due.sentence("`column`: column of the cell");
        for (int column : Ints.outside(0, 9)) {
            two().refused(-1, "coverage", 2, column);
        }
    }

    private static void answers() {
        Due.sentence("Returns the number of photos that see the cell; OUTSIDE_TERRAIN.");
        Survey x = new Survey().with("resize", 5, 9).with("raiseHill", 2, 4, 2, 900)
                .with("addStrip", 1, 0, 8, 3).with("addStrip", 4, 1, 7, 2);
        for (int row = 0; row < 5; row++) {
            for (int column = 0; column < 9; column++) {
                int photos = 0;
                for (int photo = 0; photo < 7; photo++) {
                    photos += photo < 3 ? x.ask("seesCell", 0, photo, row, column)
                            : x.ask("seesCell", 1, photo - 3, row, column);
                }
                x.due(photos, "coverage", row, column);
            }
        }
        new Survey().refused(-1, "coverage", 6, 10).refused(-1, "coverage", -1, -1);
    }
}
