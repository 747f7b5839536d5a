/** Promise 15: seesCell. What a photo sees is tested in DescriptionVisibilityTest. */
public final class Promise15SeesCellTest {
    public static void main(String[] args) {
        tells();
        strips();
        photos();
        rows();
        columns();
        answers();
        Due.end();
    }

    private static Survey two() {
        return new Survey().with("addStrip", 2, 0, 9, 4).with("addStrip", 5, 3, 3, 1)
                .with("setHeight", 2, 1, 667);
    }

    private static void tells() {
        Due.sentence("Tells whether a photo sees a cell.");
        Survey x = two();
        // The photo of this strip with this number, in the strip's row and its own column.
        x.unchangedBy(0, "seesCell", 0, 0, 2, 3).unchangedBy(1, "seesCell", 0, 1, 2, 3);
        x.unchangedBy(0, "seesCell", 0, 2, 2, 3).unchangedBy(0, "seesCell", 1, 0, 2, 3);
        x.unchangedBy(1, "seesCell", 1, 0, 3, 3).unchangedBy(0, "seesCell", 0, 1, 5, 4);
    }

    private static void strips() {
        Due.sentence("`strip`: number of the strip");
        for (int strip : Ints.outside(0, 1)) {
            two().refused(-2, "seesCell", strip, 0, 2, 3);
        }
    }

    private static void photos() {
        Due.sentence("`photo`: number of the photo");
        for (int photo : Ints.outside(0, 2)) {
            two().refused(-3, "seesCell", 0, photo, 2, 3);
        }
        for (int photo : Ints.outside(0, 0)) {
            two().refused(-3, "seesCell", 1, photo, 2, 3);
        }
    }

    private static void rows() {
        Due.sentence("`row`: row of the cell");
        two().due(1, "seesCell", 0, 1, 0, 4).due(1, "seesCell", 1, 0, 5, 4);
        for (int row : Ints.outside(0, 5)) {
            two().refused(-1, "seesCell", 0, 0, row, 0);
        }
    }

    private static void columns() {
        Due.sentence("`column`: column of the cell");
        two().due(1, "seesCell", 0, 0, 2, 0).due(1, "seesCell", 0, 2, 2, 9);
        for (int column : Ints.outside(0, 9)) {
            two().refused(-1, "seesCell", 0, 0, 0, column);
        }
    }

    private static void answers() {
        Due.sentence("Returns 1 if the photo sees the cell, otherwise 0; NO_SUCH_STRIP;"
                + " NO_SUCH_PHOTO; OUTSIDE_TERRAIN.");
        two().refused(-2, "seesCell", 2, 3, 6, 10).refused(-2, "seesCell", -1, -1, -1, -1);
        two().refused(-2, "seesCell", 2, 0, 6, 10).refused(-2, "seesCell", 2, 3, 0, 0);
        two().refused(-3, "seesCell", 0, 3, 6, 10).refused(-3, "seesCell", 1, -1, -1, 0);
        two().refused(-1, "seesCell", 0, 2, 6, 10);
        new Survey().refused(-2, "seesCell", 0, 0, 0, 0);
    }
}
