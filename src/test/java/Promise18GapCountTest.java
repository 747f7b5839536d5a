/** Promise 18: gapCount. */
public final class Promise18GapCountTest {
    public static void main(String[] args) {
        counts();
        fullAndEmpty();
        countsCellsBelow();
        required();
        answers();
        Due.end();
    }

    private static Survey two() {
        return new Survey().with("addStrip", 2, 4, 4, 1).with("addStrip", 5, 9, 9, 1);
    }

    private static void counts() {
        Due.sentence("Counts the gaps for a required coverage.");
        // One photo sees 35 cells, the other 12; the four cells (3, 6) to (4, 7) are seen by both.
        two().unchangedBy(60 - 35 - 12 + 4, "gapCount", 1).unchangedBy(56, "gapCount", 2)
                .unchangedBy(60, "gapCount", 3);
    }

    private static void fullAndEmpty() {
        Survey x = new Survey();
        for (int required : Ints.range(1, 9)) {
            x.due(60, "gapCount", required);
        }
        // Nine photos that see all cells: no gap for 9, and with eight a gap in each cell.
        x.with("setAltitude", 5000).with("setFields", 50, 50).with("addStrip", 0, 0, 7, 1);
        x.due(0, "gapCount", 8).due(60, "gapCount", 9);
        x.with("addStrip", 5, 9, 9, 1);
        for (int required : Ints.range(1, 9)) {
            x.due(0, "gapCount", required);
        }
    }

    private static void countsCellsBelow() {
        Survey x = new Survey().with("resize", 7, 11).with("raiseHill", 3, 5, 3, 700)
                .with("addStrip", 1, 0, 10, 1).with("addStrip", 4, 0, 10, 2)
                .with("addStrip", 6, 0, 10, 1);
        for (int required : Ints.range(1, 9)) {
            Survey y = x.copy();
            int gaps = 0;
            for (int cell = 0; cell < 77; cell++) {
                gaps += y.ask("coverage", cell / 11, cell % 11) < required ? 1 : 0;
            }
            y.due(gaps, "gapCount", required);
        }
    }

    private static void required() {
        Due.sentence("`required`: from 1 to 9");
        for (int required : Ints.outside(1, 9)) {
            two().refused(-4, "gapCount", required);
        }
    }

    private static void answers() {
        Due.sentence("Returns the number of gaps; BAD_VALUE.");
        new Survey().with("resize", 10, 16).due(160, "gapCount", 1).due(160, "gapCount", 9)
                .due(-4, "gapCount", 0).due(-4, "gapCount", 10);
    }
}
