/** Promise 16: footprintSize. */
public final class Promise16FootprintSizeTest {
    public static void main(String[] args) {
        counts();
        noCellAndAllCells();
        sumOfSeenCells();
        strips();
        photos();
        answers();
        Due.end();
    }

    private static Survey two() {
        return new Survey().with("addStrip", 0, 0, 9, 4).with("addStrip", 3, 3, 3, 1);
    }

    private static void counts() {
        Due.sentence("Counts the cells that a photo sees.");
        // Rows 0 to 2 of columns 0 to 3, 1 to 7 and 5 to 9; rows 1 to 5 of columns 0 to 6.
        two().unchangedBy(12, "footprintSize", 0, 0).unchangedBy(21, "footprintSize", 0, 1)
                .unchangedBy(15, "footprintSize", 0, 2).unchangedBy(35, "footprintSize", 1, 0);
        two().with("setHeight", 2, 1, 1).due(11, "footprintSize", 0, 0)
                .due(20, "footprintSize", 0, 1).due(15, "footprintSize", 0, 2);
    }

    private static void noCellAndAllCells() {
        two().with("setAltitude", 100).due(1, "footprintSize", 0, 0)
                .with("setHeight", 0, 0, 100).due(0, "footprintSize", 0, 0)
                .due(1, "footprintSize", 0, 1);
        Survey x = new Survey().with("resize", 10, 16).with("setAltitude", 5000)
                .with("setFields", 50, 50).with("addStrip", 9, 15, 15, 1);
        x.due(160, "footprintSize", 0, 0);
    }

    private static void sumOfSeenCells() {
        Survey x = new Survey().with("resize", 9, 13).with("raiseHill", 4, 6, 3, 800)
                .with("setCrab", 30).with("setAltitude", 1100).with("setFields", 6, 5)
                .with("addStrip", 6, 1, 12, 5);
        for (int photo = 0; photo < 3; photo++) {
            int seen = 0;
            for (int cell = 0; cell < 9 * 13; cell++) {
                seen += x.ask("seesCell", 0, photo, cell / 13, cell % 13);
            }
            x.due(seen, "footprintSize", 0, photo);
        }
    }

    private static void strips() {
        Due.sentence("`strip`: number of the strip");
        for (int strip : Ints.outside(0, 1)) {
            two().refused(-2, "footprintSize", strip, 0);
        }
    }

    private static void photos() {
        Due.sentence("`photo`: number of the photo");
        for (int photo : Ints.outside(0, 2)) {
            two().refused(-3, "footprintSize", 0, photo);
        }
    }

    private static void answers() {
        Due.sentence("Returns the number of cells; NO_SUCH_STRIP; NO_SUCH_PHOTO.");
        two().refused(-2, "footprintSize", 2, 3).refused(-2, "footprintSize", -1, -1);
        two().refused(-3, "footprintSize", 1, 1);
        new Survey().refused(-2, "footprintSize", 0, 0);
    }
}
