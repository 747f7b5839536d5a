/** Promise 20: forwardOverlap. */
public final class Promise20ForwardOverlapTest {
    public static void main(String[] args) {
        percentOfTheFewer();
        roundedDown();
        countedByHand();
        noCell();
        strips();
        photos();
        answers();
        Due.end();
    }

    private static Survey three() {
        // The photos at 0, 4 and 8 see rows 0 to 4 of columns 0 to 3, 1 to 7 and 5 to 9.
        return new Survey().with("addStrip", 2, 0, 9, 4).with("addStrip", 2, 5, 5, 1);
    }

    private static void percentOfTheFewer() {
        Due.sentence("Computes the forward overlap of two consecutive photos: the number of cells"
                + " that both see, times 100, divided by the number of cells that the photo with"
                + " fewer cells sees, rounded down.");
        // The first photo has fewer cells (15 of 20), then the second (15 of 25).
        three().unchangedBy(75, "forwardOverlap", 0, 0).unchangedBy(60, "forwardOverlap", 0, 1);
        // One call's counts have no part in the next one's.
        three().due(75, "forwardOverlap", 0, 0).due(60, "forwardOverlap", 0, 1)
                .due(75, "forwardOverlap", 0, 0).due(100, "sideOverlap", 1, 0)
                .due(60, "forwardOverlap", 0, 1);
        // All cells of the fewer are shared; and no cell is.
        new Survey().with("setFields", 50, 2).with("addStrip", 2, 0, 9, 4)
                .due(100, "forwardOverlap", 0, 0);
        three().with("setFields", 1, 2).due(0, "forwardOverlap", 0, 0);
    }

    private static void roundedDown() {
        // Columns 0 to 4, 1 to 7 and 4 to 9: 4 of 5 columns, then 4 of 6.
        new Survey().with("addStrip", 2, 1, 9, 3).due(80, "forwardOverlap", 0, 0)
                .due(66, "forwardOverlap", 0, 1);
        // 14 of 19 cells are 73.68 percent, 8 of 11 are 72.72.
        three().with("setHeight", 0, 1, 999).due(73, "forwardOverlap", 0, 0);
        new Survey().with("addStrip", 5, 0, 9, 4).with("setHeight", 3, 1, 999)
                .due(72, "forwardOverlap", 0, 0);
        new Survey().with("addStrip", 0, 0, 9, 4).with("setHeight", 2, 1, 999)
                .due(72, "forwardOverlap", 0, 0);
    }

    private static void countedByHand() {
        Survey x = new Survey().with("resize", 5, 11).with("raiseHill", 3, 5, 3, 800)
                .with("setCrab", -35).with("setFields", 5, 3).with("addStrip", 2, 0, 10, 3);
        for (int photo = 0; photo < 3; photo++) {
            Survey y = x.copy();
            int one = 0;
            int next = 0;
            int both = 0;
            for (int cell = 0; cell < 55; cell++) {
                int first = y.ask("seesCell", 0, photo, cell / 11, cell % 11);
                int second = y.ask("seesCell", 0, photo + 1, cell / 11, cell % 11);
                one += first;
                next += second;
                both += first * second;
            }
            y.due(both * 100 / Math.min(one, next), "forwardOverlap", 0, photo);
        }
    }

    private static void noCell() {
        Due.sentence("It is 0 if one of them sees no cell.");
        Survey low = three().with("setAltitude", 100);
        low.copy().with("setHeight", 2, 0, 100).due(0, "footprintSize", 0, 0)
                .unchangedBy(0, "forwardOverlap", 0, 0);
        low.copy().with("setHeight", 2, 4, 100).due(0, "footprintSize", 0, 1)
                .unchangedBy(0, "forwardOverlap", 0, 0);
        low.copy().with("setHeight", 2, 0, 100).with("setHeight", 2, 4, 100)
                .unchangedBy(0, "forwardOverlap", 0, 0);
    }

    private static void strips() {
        Due.sentence("`strip`: number of the strip");
        for (int strip : Ints.outside(0, 1)) {
            three().refused(-2, "forwardOverlap", strip, 0);
        }
    }

    private static void photos() {
        Due.sentence("`photo`: number of the first of both photos");
        for (int photo : Ints.outside(0, 1)) {
            three().refused(-3, "forwardOverlap", 0, photo);
        }
    }

    private static void answers() {
        Due.sentence("Returns the overlap in percent; NO_SUCH_STRIP; NO_SUCH_PHOTO if the strip has"
                + " no photo with this number, or none with the next number.");
        // The last photo has no next one; before the first there is none, though the next is.
        three().refused(-3, "forwardOverlap", 0, 2).refused(-3, "forwardOverlap", 0, 3);
        three().refused(-3, "forwardOverlap", 0, -1);
        three().refused(-3, "forwardOverlap", 0, Integer.MAX_VALUE);
        three().refused(-3, "forwardOverlap", 0, Integer.MIN_VALUE);
        three().refused(-3, "forwardOverlap", 1, 0).refused(-3, "forwardOverlap", 1, -1);
        three().refused(-2, "forwardOverlap", 2, 9).refused(-2, "forwardOverlap", -1, -1);
        new Survey().refused(-2, "forwardOverlap", 0, 0);
    }
}
