/** Promise 3: setHeight. */
public final class Promise03SetHeightTest {
    public static void main(String[] args) {
        setsOneCell();
        rows();
        columns();
        heights();
        answers();
        Due.end();
    }

    private static Survey hilly() {
        return new Survey().with("resize", 5, 7).with("raiseHill", 2, 3, 2, 444)
                .with("addStrip", 1, 0, 6, 2);
    }

    private static void setsOneCell() {
        Due.sentence("Sets the height of a cell.");
        Survey x = hilly();
        Survey before = hilly();
        x.with("setHeight", 3, 4, 5);
        for (int row = 0; row < 5; row++) {
            for (int column = 0; column < 7; column++) {
                boolean set = row == 3 && column == 4;
                x.due(set ? 5 : before.ask("height", row, column), "height", row, column);
            }
        }
        x.due(1, "stripCount");
    }

    private static void rows() {
        Due.sentence("`row`: row of the cell");
        Survey x = hilly();
        x.copy().due(0, "setHeight", 0, 0, 1).due(0, "setHeight", 4, 0, 2)
                .due(1, "height", 0, 0).due(2, "height", 4, 0);
        for (int row : Ints.outside(0, 4)) {
            x.refused(-1, "setHeight", row, 3, 1);
        }
    }

    private static void columns() {
        Due.sentence("`column`: column of the cell");
        Survey x = hilly();
        x.copy().due(0, "setHeight", 0, 6, 1).due(1, "height", 0, 6).due(0, "height", 0, 0);
        for (int column : Ints.outside(0, 6)) {
            x.refused(-1, "setHeight", 2, column, 1);
        }
    }

    private static void heights() {
        Due.sentence("`height`: from 0 to 999");
        Survey x = hilly();
        x.copy().due(444, "setHeight", 2, 3, 0).due(0, "setHeight", 2, 3, 999)
                .due(999, "setHeight", 2, 3, 1).due(1, "setHeight", 2, 3, 998)
                .due(998, "height", 2, 3);
        for (int height : Ints.outside(0, 999)) {
            x.refused(-4, "setHeight", 2, 3, height);
        }
    }

    private static void answers() {
        Due.sentence("Returns the previous height; OUTSIDE_TERRAIN; BAD_VALUE.");
        Survey x = hilly();
        x.copy().due(444, "setHeight", 2, 3, 444).due(444, "setHeight", 2, 3, 445)
                .due(445, "setHeight", 2, 3, 0).due(0, "setHeight", 2, 3, 0);
        // Outside and a wrong height: the place is looked at first.
        x.refused(-1, "setHeight", 5, 0, -1);
        x.refused(-1, "setHeight", 0, 7, 1000);
        x.refused(-1, "setHeight", -1, -1, Integer.MIN_VALUE);
    }
}
