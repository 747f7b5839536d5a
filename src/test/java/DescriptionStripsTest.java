/** 'Description', the paragraph on strips and photos. */
public final class DescriptionStripsTest {
    public static void main(String[] args) {
        oneRow();
        columnsAndSpacing();
        photoColumns();
        photosInOrder();
        stripsInOrder();
        oneAltitude();
        Due.end();
    }

    private static void oneRow() {
        Due.sentence("Strips and photos. A strip lies in one row.");
        Survey x = new Survey().with("addStrip", 3, 1, 9, 2).with("setAltitude", 100);
        for (int photo = 0; photo < 5; photo++) {
            for (int row = 0; row < 6; row++) {
                x.due(row == 3 ? 1 : 0, "seesCell", 0, photo, row, 1 + 2 * photo);
            }
        }
    }

    private static void columnsAndSpacing() {
        Due.sentence("It has a first column, a last column that is not less than the first"
                + " column, and a spacing of at least 1.");
        Survey x = new Survey();
        x.due(0, "addStrip", 2, 5, 5, 1);
        x.due(1, "addStrip", 2, 4, 5, 1);
        x.refused(-4, "addStrip", 2, 5, 4, 1);
        x.refused(-4, "addStrip", 2, 9, 0, 1);
        x.refused(-4, "addStrip", 2, 4, 5, 0);
        x.refused(-4, "addStrip", 2, 4, 5, -1);
    }

    private static void photoColumns() {
        Due.sentence("Its photos are taken in its row at the columns first, first + spacing,"
                + " first + 2 * spacing and so on, as long as the column is not greater than the"
                + " last column.");
        for (int first = 0; first < 16; first++) {
            for (int last = first; last < 16; last++) {
                for (int spacing = 1; spacing <= 16; spacing++) {
                    photosOf(first, last, spacing);
                }
            }
        }
        // The last photo at the last column, and the next column less: one photo less.
        new Survey().with("addStrip", 0, 1, 9, 4).due(3, "photoCount", 0)
                .with("addStrip", 0, 1, 8, 4).due(2, "photoCount", 1);
    }

    private static void photosOf(int first, int last, int spacing) {
        Survey x = new Survey().with("resize", 3, 16).with("addStrip", 1, first, last, spacing);
        int photos = 0;
        for (int column = first; column <= last; column += spacing) {
            x.due(column, "photoColumn", 0, photos);
            photos++;
        }
        x.due(-3, "photoColumn", 0, photos);
        x.due(photos, "photoCount", 0);
    }

    private static void photosInOrder() {
        Due.sentence("The photos of a strip are numbered from 0 in this order.");
        new Survey().with("addStrip", 5, 2, 9, 3)
                .due(2, "photoColumn", 0, 0)
                .due(5, "photoColumn", 0, 1)
                .due(8, "photoColumn", 0, 2)
                .refused(-3, "photoColumn", 0, -1)
                .refused(-3, "photoColumn", 0, 3);
    }

    private static void stripsInOrder() {
        Due.sentence("Strips are numbered from 0 in the order in which they were added.");
        Survey x = new Survey();
        for (int strip = 0; strip < 8; strip++) {
            x.due(strip, "addStrip", 5 - strip % 6, 8 - strip, 9, 1);
        }
        for (int strip = 0; strip < 8; strip++) {
            x.due(8 - strip, "photoColumn", strip, 0);
            Due.due("the row of strip " + strip, x.rowOf(strip), 5 - strip % 6);
        }
    }

    private static void oneAltitude() {
        Due.sentence("All photos are taken at the same altitude.");
        // Strips that were added below other altitudes see no farther and no nearer.
        Survey x = new Survey().with("setAltitude", 100).with("addStrip", 2, 4, 4, 1)
                .with("setAltitude", 5000).with("addStrip", 2, 4, 5, 1)
                .with("setAltitude", 1000);
        x.due(35, "footprintSize", 0, 0);
        x.due(35, "footprintSize", 1, 0);
        x.due(35, "footprintSize", 1, 1);
    }
}
