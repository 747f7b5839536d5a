/** Promise 19: gapAt. */
public final class Promise19GapAtTest {
    public static void main(String[] args) {
        encoded();
        inOrder();
        required();
        numbers();
        answers();
        Due.end();
    }

    private static Survey one() {
        // Rows 0 to 4 of columns 1 to 7 are seen: 25 gaps.
        return new Survey().with("addStrip", 2, 4, 4, 1);
    }

    private static void encoded() {
        Due.sentence("Returns a gap in row-major order, encoded as 100 * row + column.");
        one().unchangedBy(0, "gapAt", 1, 0).unchangedBy(8, "gapAt", 1, 1)
                .unchangedBy(9, "gapAt", 1, 2).unchangedBy(100, "gapAt", 1, 3)
                .unchangedBy(409, "gapAt", 1, 14).unchangedBy(500, "gapAt", 1, 15)
                .unchangedBy(509, "gapAt", 1, 24);
        new Survey().with("resize", 10, 16).due(15, "gapAt", 1, 15).due(100, "gapAt", 1, 16)
                .due(915, "gapAt", 9, 159);
    }

    private static void inOrder() {
        Survey x = new Survey().with("resize", 7, 11).with("raiseHill", 3, 5, 3, 700)
                .with("addStrip", 1, 0, 10, 2).with("addStrip", 5, 0, 10, 3);
        for (int required = 1; required <= 9; required += 2) {
            Survey y = x.copy();
            int k = 0;
            for (int row = 0; row < 7; row++) {
                for (int column = 0; column < 11; column++) {
                    if (y.ask("coverage", row, column) < required) {
                        y.due(100 * row + column, "gapAt", required, k);
                        k++;
                    }
                }
            }
            y.due(k, "gapCount", required).due(-6, "gapAt", required, k);
        }
    }

    private static void required() {
        Due.sentence("`required`: from 1 to 9");
        one().due(0, "gapAt", 1, 0).due(3, "gapAt", 9, 3);
        for (int required : Ints.outside(1, 9)) {
            one().refused(-4, "gapAt", required, 0);
        }
    }

    private static void numbers() {
        Due.sentence("`k`: number of the gap in row-major order, from 0");
        int[] negative = {-1, -2, -25, -60, Integer.MIN_VALUE, Integer.MIN_VALUE + 1};
        for (int k : negative) {
            one().refused(-4, "gapAt", 1, k);
        }
    }

    private static void answers() {
        Due.sentence("Returns the encoded gap; BAD_VALUE if required is out of range or k is"
                + " negative; NONE if there are k or fewer gaps.");
        int[] tooGreat = {25, 26, 60, Integer.MAX_VALUE, Integer.MAX_VALUE - 1, 1 << 28};
        for (int k : tooGreat) {
            one().refused(-6, "gapAt", 1, k);
        }
        new Survey().due(509, "gapAt", 9, 59).refused(-6, "gapAt", 9, 60);
        // Without gaps there is not even one with the number 0.
        Survey x = one().with("setAltitude", 5000).with("setFields", 50, 50);
        x.due(0, "gapCount", 1).refused(-6, "gapAt", 1, 0).refused(-4, "gapAt", 1, -1);
        // Out of range and too great: the range is looked at first.
        x.refused(-4, "gapAt", 0, 99).refused(-4, "gapAt", 10, 99).refused(-4, "gapAt", 10, -1);
    }
}
