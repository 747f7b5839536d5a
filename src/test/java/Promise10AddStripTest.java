/** Promise 10: addStrip. */
public final class Promise10AddStripTest {
    public static void main(String[] args) {
        adds();
        rows();
        firsts();
        lasts();
        spacings();
        answers();
        eightStripsAndANinth();
        orderOfErrors();
        Due.end();
    }

    private static Survey one() {
        return new Survey().with("resize", 7, 12).with("setHeight", 3, 3, 30)
                .with("addStrip", 3, 1, 7, 2);
    }

    private static void adds() {
        Due.sentence("Adds a strip.");
        Survey x = one().due(1, "addStrip", 5, 2, 11, 4).due(2, "stripCount");
        x.due(3, "photoCount", 1).due(2, "photoColumn", 1, 0).due(6, "photoColumn", 1, 1)
                .due(10, "photoColumn", 1, 2).due(90, "stripTime", 1, true);
        Due.due("its row", x.rowOf(1), 5);
        // The strip before it stays, and the same strip can be added again.
        x.due(4, "photoCount", 0).due(1, "photoColumn", 0, 0);
        Due.due("the row of strip 0", x.rowOf(0), 3);
        x.due(2, "addStrip", 5, 2, 11, 4).due(3, "photoCount", 2);
    }

    private static void rows() {
        Due.sentence("`row`: row of the strip");
        Survey x = one().due(1, "addStrip", 0, 0, 11, 1).due(2, "addStrip", 6, 0, 11, 1);
        Due.due("the row of strip 1", x.rowOf(1), 0);
        Due.due("the row of strip 2", x.rowOf(2), 6);
        for (int row : Ints.outside(0, 6)) {
            x.refused(-1, "addStrip", row, 0, 11, 1);
        }
    }

    private static void firsts() {
        Due.sentence("`first`: first column");
        Survey x = one().due(1, "addStrip", 0, 0, 11, 1).due(2, "addStrip", 0, 11, 11, 1);
        x.due(0, "photoColumn", 1, 0).due(11, "photoColumn", 2, 0);
        for (int first : Ints.outside(0, 11)) {
            x.refused(-1, "addStrip", 0, first, 11, 1);
        }
    }

    private static void lasts() {
        Due.sentence("`last`: last column");
        Survey x = one().due(1, "addStrip", 0, 0, 0, 1).due(2, "addStrip", 0, 0, 11, 1);
        x.due(1, "photoCount", 1).due(12, "photoCount", 2);
        x.due(0, "stripTime", 1, true).due(110, "stripTime", 2, true);
        for (int last : Ints.outside(0, 11)) {
            x.refused(-1, "addStrip", 0, 0, last, 1);
        }
    }

    private static void spacings() {
        Due.sentence("`spacing`: distance between photos in columns, from 1 to 16");
        for (int spacing : Ints.range(1, 16)) {
            Survey x = new Survey().with("resize", 3, 16).due(0, "addStrip", 0, 0, 15, spacing);
            x.due(15 / spacing + 1, "photoCount", 0);
            x.due(spacing < 16 ? spacing : -3, "photoColumn", 0, 1);
        }
        Survey x = one();
        for (int spacing : Ints.outside(1, 16)) {
            x.refused(-4, "addStrip", 0, 0, 11, spacing);
            x.refused(-4, "addStrip", 0, 5, 5, spacing);
        }
    }

    private static void answers() {
        Due.sentence("Returns the number of the new strip; OUTSIDE_TERRAIN if row, first or last is"
                + " not in the terrain; BAD_VALUE if last is less than first, or spacing is out of"
                + " range; FULL.");
        Survey x = one();
        // A last column equal to the first one is fine, one less is not.
        x.copy().due(1, "addStrip", 2, 5, 5, 1).due(2, "addStrip", 2, 5, 5, 16)
                .due(1, "photoCount", 1).due(1, "photoCount", 2);
        x.refused(-4, "addStrip", 2, 5, 4, 1);
        x.refused(-4, "addStrip", 2, 11, 0, 1);
        x.refused(-4, "addStrip", 2, 1, 0, 16);
        x.refused(-4, "addStrip", 2, 1, 0, 17);
    }

    private static void eightStripsAndANinth() {
        Survey x = new Survey();
        for (int strip = 0; strip < 8; strip++) {
            x.due(strip, "addStrip", strip % 6, strip, 9, 1).due(strip + 1, "stripCount");
        }
        x.refused(-5, "addStrip", 0, 0, 9, 1);
        // Where a strip goes there is room for one again, and for one alone.
        x.due(7, "removeStrip", 3).due(7, "addStrip", 0, 0, 9, 1);
        x.refused(-5, "addStrip", 0, 0, 9, 1);
    }

    private static void orderOfErrors() {
        Survey x = one();
        x.refused(-1, "addStrip", 7, 5, 4, 0);
        x.refused(-1, "addStrip", 0, 12, 11, 1);
        x.refused(-1, "addStrip", 0, 12, 0, 0);
        x.refused(-1, "addStrip", 0, 0, -1, 1);
        x.refused(-1, "addStrip", 0, 5, -1, 17);
        Survey full = new Survey();
        for (int strip = 0; strip < 8; strip++) {
            full.with("addStrip", strip % 6, strip, 9, 1);
        }
        full.refused(-1, "addStrip", 6, 0, 9, 1);
        full.refused(-1, "addStrip", 0, 0, 10, 0);
        full.refused(-4, "addStrip", 0, 5, 4, 1);
        full.refused(-4, "addStrip", 0, 0, 9, 0);
        full.refused(-4, "addStrip", 0, 0, 9, 17);
        full.refused(-5, "addStrip", 0, 0, 9, 16);
    }
}
