/** Promise 5: height. */
public final class Promise05HeightTest {
    public static void main(String[] args) {
        answersTheHeight();
        rows();
        columns();
        bothOutside();
        Due.end();
    }

    private static Survey hilly() {
        return new Survey().with("setHeight", 2, 7, 123).with("setHeight", 0, 0, 999)
                .with("setHeight", 5, 9, 1);
    }

    private static void answersTheHeight() {
        Due.sentence("Returns the height of a cell.");
        hilly().unchangedBy(123, "height", 2, 7).unchangedBy(999, "height", 0, 0)
                .unchangedBy(1, "height", 5, 9).unchangedBy(0, "height", 3, 7);
    }

    private static void rows() {
        Due.sentence("`row`: row of the cell");
        Survey x = hilly();
        x.due(999, "height", 0, 0).due(0, "height", 5, 0);
        for (int row : Ints.outside(0, 5)) {
            x.refused(-1, "height", row, 0);
        }
    }

    private static void columns() {
        Due.sentence("`column`: column of the cell");
        Survey x = hilly();
        x.due(999, "height", 0, 0).due(0, "height", 0, 9);
        for (int column : Ints.outside(0, 9)) {
            x.refused(-1, "height", 0, column);
        }
    }

    private static void bothOutside() {
        Due.sentence("Returns the height; OUTSIDE_TERRAIN.");
        Survey x = hilly();
        x.refused(-1, "height", 6, 10).refused(-1, "height", -1, -1);
        x.refused(-1, "height", Integer.MAX_VALUE, Integer.MAX_VALUE);
        x.refused(-1, "height", Integer.MIN_VALUE, Integer.MIN_VALUE);
        // Places that would be in the terrain if rows lay behind one another.
        x.refused(-1, "height", 1, -1).refused(-1, "height", -1, 17).refused(-1, "height", 0, 16);
    }
}
