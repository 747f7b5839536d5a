/** Promise 21: sideOverlap. */
public final class Promise21SideOverlapTest {
    public static void main(String[] args) {
        twoStrips();
        seesByOnePhoto();
        percentOfTheFewer();
        countedByHand();
        noCell();
        itself();
        firsts();
        seconds();
        answers();
        Due.end();
    }

    private static Survey three() {
        // The strips see rows 0 to 2, 1 to 5 and 3 to 5, in all columns.
        return new Survey().with("addStrip", 0, 0, 9, 3).with("addStrip", 3, 0, 9, 3)
                .with("addStrip", 5, 0, 9, 3);
    }

    private static void twoStrips() {
        Due.sentence("Computes the side overlap of two strips.");
        three().unchangedBy(66, "sideOverlap", 0, 1).unchangedBy(66, "sideOverlap", 1, 0)
                .unchangedBy(100, "sideOverlap", 1, 2).unchangedBy(100, "sideOverlap", 2, 1)
                .unchangedBy(0, "sideOverlap", 0, 2).unchangedBy(0, "sideOverlap", 2, 0);
    }

    private static void seesByOnePhoto() {
        Due.sentence("A strip sees a cell if at least one of its photos sees it.");
        // Strip 0 sees every column of strip 1, each by other photos; what several photos see
        // counts once.
        Survey x = new Survey().with("setFields", 1, 2).with("addStrip", 2, 0, 9, 1)
                .with("addStrip", 2, 4, 4, 1);
        x.due(15, "footprintSize", 1, 0).due(100, "sideOverlap", 0, 1);
        x.with("addStrip", 2, 0, 9, 9).due(0, "sideOverlap", 1, 2);
        // Strip 3 sees columns 0 to 3, of which strip 2 sees 0 and 1 by its first photo; strip 4
        // sees columns 6 to 9, of which strip 2 sees 8 and 9 by its last one.
        x.with("addStrip", 2, 1, 2, 1).due(50, "sideOverlap", 3, 2);
        x.with("addStrip", 2, 7, 8, 1).due(50, "sideOverlap", 2, 4);
    }

    private static void percentOfTheFewer() {
        Due.sentence("The side overlap is the number of cells that both strips see, times 100,"
                + " divided by the number of cells that the strip with fewer cells sees, rounded"
                + " down.");
        // Rows 0 to 4 of columns 0 to 3, of which strip 1 sees 16: 80 percent of 20, not of 50.
        Survey x = three().with("addStrip", 2, 0, 0, 1);
        x.due(80, "sideOverlap", 1, 3).due(80, "sideOverlap", 3, 1);
        // 8 of 11 cells are 72.72 percent.
        new Survey().with("resize", 6, 4).with("addStrip", 0, 1, 1, 1).with("addStrip", 3, 1, 1, 1)
                .with("setHeight", 0, 0, 999).due(72, "sideOverlap", 0, 1);
        new Survey().with("addStrip", 2, 4, 4, 1).with("addStrip", 2, 0, 0, 1)
                .due(75, "sideOverlap", 0, 1);
    }

    private static void countedByHand() {
        Survey x = new Survey().with("resize", 5, 11).with("raiseHill", 2, 5, 3, 800)
                .with("setCrab", 35).with("setFields", 5, 2).with("addStrip", 1, 0, 10, 4)
                .with("addStrip", 4, 1, 9, 8);
        int first = 0;
        int second = 0;
        int both = 0;
        for (int cell = 0; cell < 55; cell++) {
            boolean one = seesAny(x, 0, 3, cell);
            boolean other = seesAny(x, 1, 2, cell);
            first += one ? 1 : 0;
            second += other ? 1 : 0;
            both += one && other ? 1 : 0;
        }
        x.due(both * 100 / Math.min(first, second), "sideOverlap", 0, 1);
    }

    private static boolean seesAny(Survey x, int strip, int photos, int cell) {
        int seen = 0;
        for (int photo = 0; photo < photos; photo++) {
            seen += x.ask("seesCell", strip, photo, cell / 11, cell % 11);
        }
        return seen > 0;
    }

    private static Survey blind() {
        // Strip 0 sees no cell, strip 1 sees its own one.
        return new Survey().with("setAltitude", 100).with("addStrip", 2, 0, 0, 1)
                .with("addStrip", 3, 0, 0, 1).with("setHeight", 2, 0, 100);
    }

    private static void noCell() {
        Due.sentence("It is 0 if one of them sees no cell.");
        blind().unchangedBy(0, "sideOverlap", 0, 1).unchangedBy(0, "sideOverlap", 1, 0);
        blind().with("setHeight", 3, 0, 100).unchangedBy(0, "sideOverlap", 0, 1);
    }

    private static void itself() {
        Due.sentence("It is defined for a strip and itself, too.");
        for (int strip = 0; strip < 3; strip++) {
            three().unchangedBy(100, "sideOverlap", strip, strip);
        }
        blind().unchangedBy(100, "sideOverlap", 1, 1).unchangedBy(0, "sideOverlap", 0, 0);
        three().refused(-2, "sideOverlap", 3, 3).refused(-2, "sideOverlap", -1, -1);
    }

    private static void firsts() {
        Due.sentence("`first`: number of one strip");
        for (int first : Ints.outside(0, 2)) {
            three().refused(-2, "sideOverlap", first, 0);
        }
    }

    private static void seconds() {
        Due.sentence("`second`: number of the other strip");
        for (int second : Ints.outside(0, 2)) {
            three().refused(-2, "sideOverlap", 0, second);
        }
    }

    private static void answers() {
        Due.sentence("Returns the overlap in percent; NO_SUCH_STRIP.");
        new Survey().refused(-2, "sideOverlap", 0, 0);
        three().refused(-2, "sideOverlap", 3, 4).refused(-2, "sideOverlap", -1, 3);
        three().with("removeStrip", 1).due(0, "sideOverlap", 0, 1).refused(-2, "sideOverlap", 0, 2);
    }
}
